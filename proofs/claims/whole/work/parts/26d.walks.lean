set_option maxHeartbeats 4000000 in
set_option maxRecDepth 100000 in
theorem c_Of_chain (l : Launch) (hlt : l.stackTraces = false) (G : ho_G) (N : Nat) (σ : ho_H) (a0 : Nat) (x1 : Int32) (x2 : Int32) (x3 : Int32) (x4 : Int32) (x5 : Int32) (σ' : ho_H) (o : Nat ⊕ Int32) (hf : f_Of_chain G N σ a0 x1 x2 x3 x4 x5 = some (σ', o)) : hx_C l G y_Of_chain (Cond.code y_Of_chain b_Of_chain 7 (some (.int)) :: hv_ws) 6 160 [.ref a0, .int x1, .int x2, .int x3, .int x4, .int x5] σ σ' (ox_i o) := by
  refine hx_met [some (.ref a0), some (.int x1), some (.int x2), some (.int x3), some (.int x4), some (.int x5), none] hlt (by decide +kernel) (by intro v hv; simp at hv; rcases hv with rfl | rfl | rfl | rfl | rfl | rfl <;> rfl) (Nat.le_of_ble_eq_true rfl) rfl ?_
  intro k X HL hkl hkG E
  subst hkl
  subst hkG
  unfold f_Of_chain at hf
  refine hv_aload_n (pn := 1) X d_Of_chain_0 ?_
  obtain ⟨v1, hv1, hf⟩ := bd_E hf
  refine hv_getI (pn := 4) X d_Of_chain_1 fa_Of_58 hv1 ?_
  refine hv_bipush (pn := 6) (v := 8) X d_Of_chain_4 ?_
  refine hv_icmp_lt (pn := 9) (tgt := 17) X d_Of_chain_6 (by decide) (fun hc => ?_) (fun hc => ?_)
  · rw [if_pos hc] at hf
    refine hv_aload_n (pn := 18) X d_Of_chain_17 ?_
    obtain ⟨b2, hb2, hf⟩ := bd_E hf
    refine hv_getR (pn := 21) X d_Of_chain_18 fa_Of_37 hb2 ?_
    refine hv_aload_n (pn := 22) X d_Of_chain_21 ?_
    obtain ⟨v3, hv3, hf⟩ := bd_E hf
    refine hv_getI (pn := 25) X d_Of_chain_22 fa_Of_58 hv3 ?_
    obtain ⟨b4, hb4, hf⟩ := bd_E hf
    refine hv_aald (pn := 26) X d_Of_chain_25 rfl hb4 ?_
    refine hv_astore (pn := 28) (i := 6) (lo' := [some (.ref a0), some (.int x1), some (.int x2), some (.int x3), some (.int x4), some (.int x5), some (.ref b4)]) X d_Of_chain_26 ?_
    refine hv_aload (pn := 30) X d_Of_chain_28 ?_
    refine hv_iload_n (pn := 31) X d_Of_chain_30 ?_
    refine hv_iload_n (pn := 32) X d_Of_chain_31 ?_
    refine hv_iload_n (pn := 33) X d_Of_chain_32 ?_
    refine hv_iload (pn := 35) X d_Of_chain_33 ?_
    refine hv_iload (pn := 37) X d_Of_chain_35 ?_
    obtain ⟨_, hr5, hf⟩ := bd_E hf
    obtain ⟨σ6, hσ6, hf⟩ := bd_E hf
    obtain ⟨hσ6, mσ6⟩ := ho_cv_E hσ6
    refine hv_callV (pn := 40) X d_Of_chain_37 (c_Kc_putTopKey _ _ N σ b4 x1 x2 x3 x4 x5 _ hσ6) cs_Of_65 q_2_41 rfl q_2_42 hr5 (by decide) (by decide) mσ6 (Nat.le_of_ble_eq_true rfl) ?_
    refine hv_aload (pn := 42) X d_Of_chain_40 ?_
    refine hv_bipush (pn := 44) (v := 64) X d_Of_chain_42 ?_
    refine hv_iconst (pn := 45) (v := 0) X d_Of_chain_44 ?_
    refine hv_aload_n (pn := 46) X d_Of_chain_45 ?_
    obtain ⟨b7, hb7, hf⟩ := bd_E hf
    refine hv_getR (pn := 49) X d_Of_chain_46 fa_Of_27 hb7 ?_
    obtain ⟨_, hr8, hf⟩ := bd_E hf
    obtain ⟨σ9, hσ9, hf⟩ := bd_E hf
    obtain ⟨hσ9, mσ9⟩ := ho_cv_E hσ9
    refine hv_callV (pn := 52) X d_Of_chain_49 (c_Kc_fillDown _ _ N σ6 b4 64 0 b7 _ hσ9) cs_Of_69 q_2_45 rfl q_2_46 hr8 (by decide) (by decide) mσ9 (Nat.le_of_ble_eq_true rfl) ?_
    refine hv_aload_n (pn := 53) X d_Of_chain_52 ?_
    refine hv_dup (pn := 54) X d_Of_chain_53 rfl ?_
    obtain ⟨v10, hv10, hf⟩ := bd_E hf
    refine hv_getI (pn := 57) X d_Of_chain_54 fa_Of_58 hv10 ?_
    refine hv_iconst (pn := 58) (v := 1) X d_Of_chain_57 ?_
    refine hv_iadd (pn := 59) X d_Of_chain_58 ?_
    obtain ⟨σ11, hσ11, hf⟩ := bd_E hf
    refine hv_put (pn := 62) X d_Of_chain_59 fp_Of_58 hσ11 ?_
    refine hv_aload_n (pn := 63) X d_Of_chain_62 ?_
    obtain ⟨v12, hv12, hf⟩ := bd_E hf
    refine hv_getI (pn := 66) X d_Of_chain_63 fa_Of_58 hv12 ?_
    refine hv_iconst (pn := 67) (v := 1) X d_Of_chain_66 ?_
    refine hv_isub (pn := 68) X d_Of_chain_67 ?_
    cases hf
    exact hx_iret X d_Of_chain_68 E
  · rw [if_neg hc] at hf
    obtain ⟨σ13, hσ13, hf⟩ := bd_E hf
    cases hf
    exact hx_throw (i := 0) X HL d_Of_chain_9 d_Of_chain_12 d_Of_chain_13 d_Of_chain_16 rfl th_Of_62 hσ13 (by decide) (by decide) (Nat.le_of_ble_eq_true rfl) E
set_option maxHeartbeats 4000000 in
set_option maxRecDepth 100000 in
theorem w_Of_tick_j11 {k : mk_T} (X : hv_X k b_Of_tick y_Of_tick.cls 2 6 160 (some (.int)) y_Of_tick.name) (HL : hx_L k) (N : Nat) (σ : ho_H)   (r : ho_H × (Nat ⊕ Int32)) (hf : f_Of_tick_j11 k.2.1 N σ  = some r) (E : hx_end k r.1 (ox_i r.2)) : hv_V k σ 11 [none, none] [] := by
  unfold f_Of_tick_j11 at hf
  obtain ⟨σ1, hσ1, hf⟩ := bd_E hf
  cases hf
  exact hx_throw (i := 1) X HL d_Of_tick_11 d_Of_tick_14 d_Of_tick_15 d_Of_tick_18 rfl th_Of_74 hσ1 (by decide) (by decide) (Nat.le_of_ble_eq_true rfl) E
set_option maxHeartbeats 4000000 in
set_option maxRecDepth 100000 in
theorem c_Of_tick (l : Launch) (hlt : l.stackTraces = false) (G : ho_G) (N : Nat) (σ : ho_H) (a0 : Nat) (x1 : Int32) (σ' : ho_H) (o : Nat ⊕ Int32) (hf : f_Of_tick G N σ a0 x1 = some (σ', o)) : hx_C l G y_Of_tick (Cond.code y_Of_tick b_Of_tick 2 (some (.int)) :: hv_ws) 6 160 [.ref a0, .int x1] σ σ' (ox_i o) := by
  refine hx_met [some (.ref a0), some (.int x1)] hlt (by decide +kernel) (by intro v hv; simp at hv; rcases hv with rfl | rfl <;> rfl) (Nat.le_of_ble_eq_true rfl) rfl ?_
  intro k X HL hkl hkG E
  subst hkl
  subst hkG
  unfold f_Of_tick at hf
  refine hv_iload_n (pn := 1) X d_Of_tick_0 ?_
  refine hv_iconst (pn := 2) (v := 1) X d_Of_tick_1 ?_
  refine hv_icmp_lt (pn := 5) (tgt := 11) X d_Of_tick_2 (by decide) (fun hc => ?_) (fun hc => ?_)
  · rw [if_pos hc] at hf
    refine hv_drop (i := 0) (lo' := [none, some (.int x1)]) ?_
    refine hv_drop (i := 1) (lo' := [none, none]) ?_
    exact w_Of_tick_j11 X HL N σ   _ hf E
  · rw [if_neg hc] at hf
    refine hv_iload_n (pn := 6) X d_Of_tick_5 ?_
    refine hv_ldc (pn := 8) X d_Of_tick_6 q_2_99 ?_
    refine hv_icmp_le (pn := 11) (tgt := 19) X d_Of_tick_8 (by decide) (fun hc => ?_) (fun hc => ?_)
    · rw [if_pos hc] at hf
      refine hv_aload_n (pn := 20) X d_Of_tick_19 ?_
      obtain ⟨b2, hb2, hf⟩ := bd_E hf
      refine hv_getR (pn := 23) X d_Of_tick_20 fa_Of_18 hb2 ?_
      refine hv_aload_n (pn := 24) X d_Of_tick_23 ?_
      obtain ⟨b3, hb3, hf⟩ := bd_E hf
      refine hv_getR (pn := 27) X d_Of_tick_24 fa_Of_18 hb3 ?_
      obtain ⟨v4, hv4, hf⟩ := bd_E hf
      refine hv_getI (pn := 30) X d_Of_tick_27 fa_Of_77 hv4 ?_
      refine hv_iload_n (pn := 31) X d_Of_tick_30 ?_
      refine hv_iadd (pn := 32) X d_Of_tick_31 ?_
      obtain ⟨_, hr5, hf⟩ := bd_E hf
      obtain ⟨v6, hv6, hf⟩ := bd_E hf
      refine hv_callV (pn := 35) X d_Of_tick_32 (c_Ck_intervalAt _ _ N σ b2 (v4 + x1) _ hv6) cs_Of_80 q_1_198 rfl q_1_199 hr5 (by decide) (by decide) ⟨Nat.le_refl _, Nat.le_refl _⟩ (Nat.le_of_ble_eq_true rfl) ?_
      refine hv_sipush (pn := 38) (v := 512) X d_Of_tick_35 ?_
      refine hv_icmp_le (pn := 41) (tgt := 49) X d_Of_tick_38 (by decide) (fun hc => ?_) (fun hc => ?_)
      · rw [if_pos hc] at hf
        refine hv_aload_n (pn := 50) X d_Of_tick_49 ?_
        obtain ⟨b7, hb7, hf⟩ := bd_E hf
        refine hv_getR (pn := 53) X d_Of_tick_50 fa_Of_18 hb7 ?_
        refine hv_dup (pn := 54) X d_Of_tick_53 rfl ?_
        obtain ⟨v8, hv8, hf⟩ := bd_E hf
        refine hv_getI (pn := 57) X d_Of_tick_54 fa_Of_77 hv8 ?_
        refine hv_iload_n (pn := 58) X d_Of_tick_57 ?_
        refine hv_iadd (pn := 59) X d_Of_tick_58 ?_
        obtain ⟨σ9, hσ9, hf⟩ := bd_E hf
        refine hv_put (pn := 62) X d_Of_tick_59 fp_Of_77 hσ9 ?_
        refine hv_aload_n (pn := 63) X d_Of_tick_62 ?_
        obtain ⟨b10, hb10, hf⟩ := bd_E hf
        refine hv_getR (pn := 66) X d_Of_tick_63 fa_Of_18 hb10 ?_
        obtain ⟨v11, hv11, hf⟩ := bd_E hf
        refine hv_getI (pn := 69) X d_Of_tick_66 fa_Of_77 hv11 ?_
        cases hf
        exact hx_iret X d_Of_tick_69 E
      · rw [if_neg hc] at hf
        obtain ⟨σ12, hσ12, hf⟩ := bd_E hf
        cases hf
        exact hx_throw (i := 0) X HL d_Of_tick_41 d_Of_tick_44 d_Of_tick_45 d_Of_tick_48 rfl th_Of_62 hσ12 (by decide) (by decide) (Nat.le_of_ble_eq_true rfl) E
    · rw [if_neg hc] at hf
      refine hv_drop (i := 0) (lo' := [none, some (.int x1)]) ?_
      refine hv_drop (i := 1) (lo' := [none, none]) ?_
      exact w_Of_tick_j11 X HL N σ   _ hf E
set_option maxHeartbeats 4000000 in
set_option maxRecDepth 100000 in
theorem w_Of_load_j10 {k : mk_T} (X : hv_X k b_Of_load y_Of_load.cls 4 6 160 (some (.int)) y_Of_load.name) (HL : hx_L k) (N : Nat) (σ : ho_H)   (r : ho_H × (Nat ⊕ Int32)) (hf : f_Of_load_j10 k.2.1 N σ  = some r) (E : hx_end k r.1 (ox_i r.2)) : hv_V k σ 10 [none, none, none, none] [] := by
  unfold f_Of_load_j10 at hf
  obtain ⟨σ1, hσ1, hf⟩ := bd_E hf
  cases hf
  exact hx_throw (i := 2) X HL d_Of_load_10 d_Of_load_13 d_Of_load_14 d_Of_load_17 rfl th_Of_84 hσ1 (by decide) (by decide) (Nat.le_of_ble_eq_true rfl) E
set_option maxHeartbeats 4000000 in
set_option maxRecDepth 100000 in
theorem c_Of_load (l : Launch) (hlt : l.stackTraces = false) (G : ho_G) (N : Nat) (σ : ho_H) (a0 : Nat) (x1 : Int32) (x2 : Int32) (σ' : ho_H) (o : Nat ⊕ Int32) (hf : f_Of_load G N σ a0 x1 x2 = some (σ', o)) : hx_C l G y_Of_load (Cond.code y_Of_load b_Of_load 4 (some (.int)) :: hv_ws) 6 160 [.ref a0, .int x1, .int x2] σ σ' (ox_i o) := by
  refine hx_met [some (.ref a0), some (.int x1), some (.int x2), none] hlt (by decide +kernel) (by intro v hv; simp at hv; rcases hv with rfl | rfl | rfl <;> rfl) (Nat.le_of_ble_eq_true rfl) rfl ?_
  intro k X HL hkl hkG E
  subst hkl
  subst hkG
  unfold f_Of_load at hf
  refine hv_iload_n (pn := 1) X d_Of_load_0 ?_
  refine hv_if_lt (pn := 4) (tgt := 10) X d_Of_load_1 (by decide) (fun hc => ?_) (fun hc => ?_)
  · rw [if_pos hc] at hf
    refine hv_drop (i := 0) (lo' := [none, some (.int x1), some (.int x2), none]) ?_
    refine hv_drop (i := 1) (lo' := [none, none, some (.int x2), none]) ?_
    refine hv_drop (i := 2) (lo' := [none, none, none, none]) ?_
    exact w_Of_load_j10 X HL N σ   _ hf E
  · rw [if_neg hc] at hf
    refine hv_iload_n (pn := 5) X d_Of_load_4 ?_
    refine hv_bipush (pn := 7) (v := 8) X d_Of_load_5 ?_
    refine hv_icmp_lt (pn := 10) (tgt := 18) X d_Of_load_7 (by decide) (fun hc => ?_) (fun hc => ?_)
    · rw [if_pos hc] at hf
      refine hv_aload_n (pn := 19) X d_Of_load_18 ?_
      obtain ⟨b2, hb2, hf⟩ := bd_E hf
      refine hv_getR (pn := 22) X d_Of_load_19 fa_Of_31 hb2 ?_
      refine hv_iload_n (pn := 23) X d_Of_load_22 ?_
      obtain ⟨v3, hv3, hf⟩ := bd_E hf
      refine hv_iald (pn := 24) X d_Of_load_23 hv3 ?_
      refine hv_istore_n (pn := 25) (i := 3) (lo' := [some (.ref a0), some (.int x1), some (.int x2), some (.int v3)]) X d_Of_load_24 ?_
      refine hv_aload_n (pn := 26) X d_Of_load_25 ?_
      obtain ⟨b4, hb4, hf⟩ := bd_E hf
      refine hv_getR (pn := 29) X d_Of_load_26 fa_Of_31 hb4 ?_
      refine hv_iload_n (pn := 30) X d_Of_load_29 ?_
      refine hv_iload_n (pn := 31) X d_Of_load_30 ?_
      obtain ⟨σ5, hσ5, hf⟩ := bd_E hf
      refine hv_iast (pn := 32) X d_Of_load_31 hσ5 ?_
      refine hv_iload_n (pn := 33) X d_Of_load_32 ?_
      cases hf
      exact hx_iret X d_Of_load_33 E
    · rw [if_neg hc] at hf
      refine hv_drop (i := 0) (lo' := [none, some (.int x1), some (.int x2), none]) ?_
      refine hv_drop (i := 1) (lo' := [none, none, some (.int x2), none]) ?_
      refine hv_drop (i := 2) (lo' := [none, none, none, none]) ?_
      exact w_Of_load_j10 X HL N σ   _ hf E
set_option maxHeartbeats 4000000 in
set_option maxRecDepth 100000 in
theorem w_Of_digest_j10 {k : mk_T} (X : hv_X k b_Of_digest y_Of_digest.cls 4 6 160 (some (.int)) y_Of_digest.name) (HL : hx_L k) (N : Nat) (σ : ho_H)   (r : ho_H × (Nat ⊕ Int32)) (hf : f_Of_digest_j10 k.2.1 N σ  = some r) (E : hx_end k r.1 (ox_i r.2)) : hv_V k σ 10 [none, none, none, none] [] := by
  unfold f_Of_digest_j10 at hf
  obtain ⟨σ1, hσ1, hf⟩ := bd_E hf
  cases hf
  exact hx_throw (i := 1) X HL d_Of_digest_10 d_Of_digest_13 d_Of_digest_14 d_Of_digest_17 rfl th_Of_74 hσ1 (by decide) (by decide) (Nat.le_of_ble_eq_true rfl) E
set_option maxHeartbeats 4000000 in
set_option maxRecDepth 100000 in
theorem w_Of_digest_j28 {k : mk_T} (X : hv_X k b_Of_digest y_Of_digest.cls 4 6 160 (some (.int)) y_Of_digest.name) (HL : hx_L k) (N : Nat) (σ : ho_H)   (r : ho_H × (Nat ⊕ Int32)) (hf : f_Of_digest_j28 k.2.1 N σ  = some r) (E : hx_end k r.1 (ox_i r.2)) : hv_V k σ 28 [none, none, none, none] [] := by
  unfold f_Of_digest_j28 at hf
  obtain ⟨σ2, hσ2, hf⟩ := bd_E hf
  cases hf
  exact hx_throw (i := 2) X HL d_Of_digest_28 d_Of_digest_31 d_Of_digest_32 d_Of_digest_35 rfl th_Of_84 hσ2 (by decide) (by decide) (Nat.le_of_ble_eq_true rfl) E
set_option maxHeartbeats 4000000 in
set_option maxRecDepth 100000 in
theorem w_Of_digest_l45 {k : mk_T} (X : hv_X k b_Of_digest y_Of_digest.cls 4 6 160 (some (.int)) y_Of_digest.name) (HL : hx_L k) (N : Nat) (a0 : Nat) (x1 : Int32) (x2 : Int32) (σ : ho_H) (x3 : Int32) (r : (ho_H × Int32) ⊕ (ho_H)) (hf : f_Of_digest_l45 k.2.1 N a0 x1 x2 (σ, x3) = some r) (E : sm (fun s => hv_V k s.1 45 [some (.ref a0), some (.int x1), some (.int x2), some (.int s.2)] []) (fun s => hv_V k s 71 [some (.ref a0), none, some (.int x2), none] []) r) : hv_V k σ 45 [some (.ref a0), some (.int x1), some (.int x2), some (.int x3)] [] := by
  unfold f_Of_digest_l45 at hf
  try dsimp only at hf
  refine hv_iload_n (pn := 46) X d_Of_digest_45 ?_
  refine hv_iload_n (pn := 47) X d_Of_digest_46 ?_
  refine hv_icmp_ge (pn := 50) (tgt := 71) X d_Of_digest_47 (by decide) (fun hc => ?_) (fun hc => ?_)
  · rw [if_pos hc] at hf
    refine hv_drop (i := 1) (lo' := [some (.ref a0), none, some (.int x2), some (.int x3)]) ?_
    refine hv_drop (i := 3) (lo' := [some (.ref a0), none, some (.int x2), none]) ?_
    cases hf
    exact E
  · rw [if_neg hc] at hf
    refine hv_aload_n (pn := 51) X d_Of_digest_50 ?_
    obtain ⟨b6, hb6, hf⟩ := bd_E hf
    refine hv_getR (pn := 54) X d_Of_digest_51 fa_Of_27 hb6 ?_
    refine hv_aload_n (pn := 55) X d_Of_digest_54 ?_
    obtain ⟨b7, hb7, hf⟩ := bd_E hf
    refine hv_getR (pn := 58) X d_Of_digest_55 fa_Of_31 hb7 ?_
    refine hv_iload_n (pn := 59) X d_Of_digest_58 ?_
    obtain ⟨v8, hv8, hf⟩ := bd_E hf
    refine hv_callS (pn := 62) X d_Of_digest_59 (c_Of_byteOf _ _ N σ b7 x3 _ hv8) cs_Of_90 q_2_147 (by decide) (by decide) ⟨Nat.le_refl _, Nat.le_refl _⟩ (Nat.le_of_ble_eq_true rfl) ?_
    obtain ⟨_, hr9, hf⟩ := bd_E hf
    obtain ⟨σ10, hσ10, hf⟩ := bd_E hf
    obtain ⟨hσ10, mσ10⟩ := ho_cv_E hσ10
    refine hv_callV (pn := 65) X d_Of_digest_62 (c_Sl_addByte _ _ N σ b6 v8 _ hσ10) cs_Of_94 q_2_67 rfl q_2_68 hr9 (by decide) (by decide) mσ10 (Nat.le_of_ble_eq_true rfl) ?_
    refine hv_iinc (pn := 68) (i := 3) (v := x3 + 1) (lo' := [some (.ref a0), some (.int x1), some (.int x2), some (.int (x3 + 1))]) X d_Of_digest_65 ?_
    refine hv_goto (tgt := 45) X d_Of_digest_68 (by decide) ?_
    cases hf
    exact E
set_option maxHeartbeats 4000000 in
set_option maxRecDepth 100000 in
theorem c_Of_digest (l : Launch) (hlt : l.stackTraces = false) (G : ho_G) (N : Nat) (σ : ho_H) (a0 : Nat) (x1 : Int32) (x2 : Int32) (σ' : ho_H) (o : Nat ⊕ Int32) (hf : f_Of_digest G N σ a0 x1 x2 = some (σ', o)) : hx_C l G y_Of_digest (Cond.code y_Of_digest b_Of_digest 4 (some (.int)) :: hv_ws) 6 160 [.ref a0, .int x1, .int x2] σ σ' (ox_i o) := by
  refine hx_met [some (.ref a0), some (.int x1), some (.int x2), none] hlt (by decide +kernel) (by intro v hv; simp at hv; rcases hv with rfl | rfl | rfl <;> rfl) (Nat.le_of_ble_eq_true rfl) rfl ?_
  intro k X HL hkl hkG E
  subst hkl
  subst hkG
  unfold f_Of_digest at hf
  refine hv_iload_n (pn := 1) X d_Of_digest_0 ?_
  refine hv_if_lt (pn := 4) (tgt := 10) X d_Of_digest_1 (by decide) (fun hc => ?_) (fun hc => ?_)
  · rw [if_pos hc] at hf
    refine hv_drop (i := 0) (lo' := [none, some (.int x1), some (.int x2), none]) ?_
    refine hv_drop (i := 1) (lo' := [none, none, some (.int x2), none]) ?_
    refine hv_drop (i := 2) (lo' := [none, none, none, none]) ?_
    exact w_Of_digest_j10 X HL N σ   _ hf E
  · rw [if_neg hc] at hf
    refine hv_iload_n (pn := 5) X d_Of_digest_4 ?_
    refine hv_bipush (pn := 7) (v := 32) X d_Of_digest_5 ?_
    refine hv_icmp_le (pn := 10) (tgt := 18) X d_Of_digest_7 (by decide) (fun hc => ?_) (fun hc => ?_)
    · rw [if_pos hc] at hf
      refine hv_iload_n (pn := 19) X d_Of_digest_18 ?_
      refine hv_if_lt (pn := 22) (tgt := 28) X d_Of_digest_19 (by decide) (fun hc => ?_) (fun hc => ?_)
      · rw [if_pos hc] at hf
        refine hv_drop (i := 0) (lo' := [none, some (.int x1), some (.int x2), none]) ?_
        refine hv_drop (i := 1) (lo' := [none, none, some (.int x2), none]) ?_
        refine hv_drop (i := 2) (lo' := [none, none, none, none]) ?_
        exact w_Of_digest_j28 X HL N σ   _ hf E
      · rw [if_neg hc] at hf
        refine hv_iload_n (pn := 23) X d_Of_digest_22 ?_
        refine hv_bipush (pn := 25) (v := 8) X d_Of_digest_23 ?_
        refine hv_icmp_lt (pn := 28) (tgt := 36) X d_Of_digest_25 (by decide) (fun hc => ?_) (fun hc => ?_)
        · rw [if_pos hc] at hf
          refine hv_aload_n (pn := 37) X d_Of_digest_36 ?_
          obtain ⟨b3, hb3, hf⟩ := bd_E hf
          refine hv_getR (pn := 40) X d_Of_digest_37 fa_Of_27 hb3 ?_
          obtain ⟨_, hr4, hf⟩ := bd_E hf
          obtain ⟨σ5, hσ5, hf⟩ := bd_E hf
          obtain ⟨hσ5, mσ5⟩ := ho_cv_E hσ5
          refine hv_callV (pn := 43) X d_Of_digest_40 (c_Sl_clear _ _ N σ b3 _ hσ5) cs_Of_87 q_2_60 rfl q_2_61 hr4 (by decide) (by decide) mσ5 (Nat.le_of_ble_eq_true rfl) ?_
          refine hv_iconst (pn := 44) (v := 0) X d_Of_digest_43 ?_
          refine hv_istore_n (pn := 45) (i := 3) (lo' := [some (.ref a0), some (.int x1), some (.int x2), some (.int 0)]) X d_Of_digest_44 ?_
          obtain ⟨σ11, he19, hf⟩ := bd_E hf
          refine hv_loop (P := fun s => hv_V k s.1 45 [some (.ref a0), some (.int x1), some (.int x2), some (.int s.2)] []) (Z := fun s => hv_V k s 71 [some (.ref a0), none, some (.int x2), none] []) (fun s r h1 h2 => by obtain ⟨σ, x3⟩ := s; exact w_Of_digest_l45 X HL N a0 x1 x2 σ x3 r h1 h2) N (σ5, 0) _ he19 ?_
          try dsimp only at hf ⊢
          refine hv_aload_n (pn := 72) X d_Of_digest_71 ?_
          obtain ⟨b12, hb12, hf⟩ := bd_E hf
          refine hv_getR (pn := 75) X d_Of_digest_72 fa_Of_27 hb12 ?_
          obtain ⟨_, hr13, hf⟩ := bd_E hf
          obtain ⟨σ14, hσ14, hf⟩ := bd_E hf
          obtain ⟨hσ14, mσ14⟩ := ho_cv_E hσ14
          refine hv_callV (pn := 78) X d_Of_digest_75 (c_Sl_finish _ _ N σ11 b12 _ hσ14) cs_Of_98 q_2_71 rfl q_2_72 hr13 (by decide) (by decide) mσ14 (Nat.le_of_ble_eq_true rfl) ?_
          refine hv_aload_n (pn := 79) X d_Of_digest_78 ?_
          obtain ⟨b15, hb15, hf⟩ := bd_E hf
          refine hv_getR (pn := 82) X d_Of_digest_79 fa_Of_27 hb15 ?_
          obtain ⟨b16, hb16, hf⟩ := bd_E hf
          refine hv_getR (pn := 85) X d_Of_digest_82 fa_Of_101 hb16 ?_
          refine hv_iload_n (pn := 86) X d_Of_digest_85 ?_
          obtain ⟨v17, hv17, hf⟩ := bd_E hf
          refine hv_iald (pn := 87) X d_Of_digest_86 hv17 ?_
          cases hf
          exact hx_iret X d_Of_digest_87 E
        · rw [if_neg hc] at hf
          refine hv_drop (i := 0) (lo' := [none, some (.int x1), some (.int x2), none]) ?_
          refine hv_drop (i := 1) (lo' := [none, none, some (.int x2), none]) ?_
          refine hv_drop (i := 2) (lo' := [none, none, none, none]) ?_
          exact w_Of_digest_j28 X HL N σ   _ hf E
    · rw [if_neg hc] at hf
      refine hv_drop (i := 0) (lo' := [none, some (.int x1), some (.int x2), none]) ?_
      refine hv_drop (i := 1) (lo' := [none, none, some (.int x2), none]) ?_
      refine hv_drop (i := 2) (lo' := [none, none, none, none]) ?_
      exact w_Of_digest_j10 X HL N σ   _ hf E
set_option maxHeartbeats 4000000 in
set_option maxRecDepth 100000 in
theorem w_Of_send_j10 {k : mk_T} (X : hv_X k b_Of_send y_Of_send.cls 5 8 215 (some (.int)) y_Of_send.name) (HL : hx_L k) (N : Nat) (σ : ho_H)   (r : ho_H × (Nat ⊕ Int32)) (hf : f_Of_send_j10 k.2.1 N σ  = some r) (E : hx_end k r.1 (ox_i r.2)) : hv_V k σ 10 [none, none, none, none, none] [] := by
  unfold f_Of_send_j10 at hf
  obtain ⟨σ1, hσ1, hf⟩ := bd_E hf
  cases hf
  exact hx_throw (i := 1) X HL d_Of_send_10 d_Of_send_13 d_Of_send_14 d_Of_send_17 rfl th_Of_74 hσ1 (by decide) (by decide) (Nat.le_of_ble_eq_true rfl) E
set_option maxHeartbeats 4000000 in
set_option maxRecDepth 100000 in
theorem w_Of_send_l87 {k : mk_T} (X : hv_X k b_Of_send y_Of_send.cls 5 8 215 (some (.int)) y_Of_send.name) (HL : hx_L k) (N : Nat) (a0 : Nat) (x1 : Int32) (a3 : Nat) (σ : ho_H) (x4 : Int32) (r : (ho_H × Int32) ⊕ (ho_H)) (hf : f_Of_send_l87 k.2.1 N a0 x1 a3 (σ, x4) = some r) (E : sm (fun s => hv_V k s.1 87 [some (.ref a0), some (.int x1), none, some (.ref a3), some (.int s.2)] []) (fun s => hv_V k s 118 [some (.ref a0), none, none, some (.ref a3), none] []) r) : hv_V k σ 87 [some (.ref a0), some (.int x1), none, some (.ref a3), some (.int x4)] [] := by
  unfold f_Of_send_l87 at hf
  try dsimp only at hf
  refine hv_iload (pn := 89) X d_Of_send_87 ?_
  refine hv_iload_n (pn := 90) X d_Of_send_89 ?_
  refine hv_icmp_ge (pn := 93) (tgt := 118) X d_Of_send_90 (by decide) (fun hc => ?_) (fun hc => ?_)
  · rw [if_pos hc] at hf
    refine hv_drop (i := 1) (lo' := [some (.ref a0), none, none, some (.ref a3), some (.int x4)]) ?_
    refine hv_drop (i := 4) (lo' := [some (.ref a0), none, none, some (.ref a3), none]) ?_
    cases hf
    exact E
  · rw [if_neg hc] at hf
    refine hv_aload_n (pn := 94) X d_Of_send_93 ?_
    obtain ⟨b15, hb15, hf⟩ := bd_E hf
    refine hv_getR (pn := 97) X d_Of_send_94 fa_Of_117 hb15 ?_
    refine hv_bipush (pn := 99) (v := 6) X d_Of_send_97 ?_
    refine hv_iload (pn := 101) X d_Of_send_99 ?_
    refine hv_iadd (pn := 102) X d_Of_send_101 ?_
    refine hv_aload_n (pn := 103) X d_Of_send_102 ?_
    obtain ⟨b16, hb16, hf⟩ := bd_E hf
    refine hv_getR (pn := 106) X d_Of_send_103 fa_Of_31 hb16 ?_
    refine hv_iload (pn := 108) X d_Of_send_106 ?_
    obtain ⟨v17, hv17, hf⟩ := bd_E hf
    refine hv_callS (pn := 111) X d_Of_send_108 (c_Of_byteOf _ _ N σ b16 x4 _ hv17) cs_Of_90 q_2_147 (by decide) (by decide) ⟨Nat.le_refl _, Nat.le_refl _⟩ (Nat.le_of_ble_eq_true rfl) ?_
    obtain ⟨σ18, hσ18, hf⟩ := bd_E hf
    refine hv_iast (pn := 112) X d_Of_send_111 hσ18 ?_
    refine hv_iinc (pn := 115) (i := 4) (v := x4 + 1) (lo' := [some (.ref a0), some (.int x1), none, some (.ref a3), some (.int (x4 + 1))]) X d_Of_send_112 ?_
    refine hv_goto (tgt := 87) X d_Of_send_115 (by decide) ?_
    cases hf
    exact E
set_option maxHeartbeats 4000000 in
set_option maxRecDepth 100000 in
theorem c_Of_send (l : Launch) (hlt : l.stackTraces = false) (G : ho_G) (N : Nat) (σ : ho_H) (a0 : Nat) (x1 : Int32) (σ' : ho_H) (o : Nat ⊕ Int32) (hf : f_Of_send G N σ a0 x1 = some (σ', o)) : hx_C l G y_Of_send (Cond.code y_Of_send b_Of_send 5 (some (.int)) :: hv_ws) 8 215 [.ref a0, .int x1] σ σ' (ox_i o) := by
  refine hx_met [some (.ref a0), some (.int x1), none, none, none] hlt (by decide +kernel) (by intro v hv; simp at hv; rcases hv with rfl | rfl <;> rfl) (Nat.le_of_ble_eq_true rfl) rfl ?_
  intro k X HL hkl hkG E
  subst hkl
  subst hkG
  unfold f_Of_send at hf
  refine hv_iload_n (pn := 1) X d_Of_send_0 ?_
  refine hv_if_lt (pn := 4) (tgt := 10) X d_Of_send_1 (by decide) (fun hc => ?_) (fun hc => ?_)
  · rw [if_pos hc] at hf
    refine hv_drop (i := 0) (lo' := [none, some (.int x1), none, none, none]) ?_
    refine hv_drop (i := 1) (lo' := [none, none, none, none, none]) ?_
    exact w_Of_send_j10 X HL N σ   _ hf E
  · rw [if_neg hc] at hf
    refine hv_iload_n (pn := 5) X d_Of_send_4 ?_
    refine hv_bipush (pn := 7) (v := 32) X d_Of_send_5 ?_
    refine hv_icmp_le (pn := 10) (tgt := 18) X d_Of_send_7 (by decide) (fun hc => ?_) (fun hc => ?_)
    · rw [if_pos hc] at hf
      refine hv_aload_n (pn := 19) X d_Of_send_18 ?_
      obtain ⟨b2, hb2, hf⟩ := bd_E hf
      refine hv_getR (pn := 22) X d_Of_send_19 fa_Of_18 hb2 ?_
      refine hv_aload_n (pn := 23) X d_Of_send_22 ?_
      obtain ⟨b3, hb3, hf⟩ := bd_E hf
      refine hv_getR (pn := 26) X d_Of_send_23 fa_Of_18 hb3 ?_
      obtain ⟨v4, hv4, hf⟩ := bd_E hf
      refine hv_getI (pn := 29) X d_Of_send_26 fa_Of_77 hv4 ?_
      obtain ⟨_, hr5, hf⟩ := bd_E hf
      obtain ⟨v6, hv6, hf⟩ := bd_E hf
      refine hv_callV (pn := 32) X d_Of_send_29 (c_Ck_intervalAt _ _ N σ b2 v4 _ hv6) cs_Of_80 q_1_198 rfl q_1_199 hr5 (by decide) (by decide) ⟨Nat.le_refl _, Nat.le_refl _⟩ (Nat.le_of_ble_eq_true rfl) ?_
      refine hv_istore_n (pn := 33) (i := 2) (lo' := [some (.ref a0), some (.int x1), some (.int v6), none, none]) X d_Of_send_32 ?_
      refine hv_iload_n (pn := 34) X d_Of_send_33 ?_
      obtain ⟨v7, hv7, hf⟩ := bd_E hf
      refine hv_callS (pn := 37) X d_Of_send_34 (c_Of_chainOf _ _ N σ v6 _ hv7) cs_Of_104 q_2_160 (by decide) (by decide) ⟨Nat.le_refl _, Nat.le_refl _⟩ (Nat.le_of_ble_eq_true rfl) ?_
      refine hv_aload_n (pn := 38) X d_Of_send_37 ?_
      obtain ⟨v8, hv8, hf⟩ := bd_E hf
      refine hv_getI (pn := 41) X d_Of_send_38 fa_Of_58 hv8 ?_
      refine hv_icmp_lt (pn := 44) (tgt := 52) X d_Of_send_41 (by decide) (fun hc => ?_) (fun hc => ?_)
      · rw [if_pos hc] at hf
        refine hv_aload_n (pn := 53) X d_Of_send_52 ?_
        obtain ⟨b9, hb9, hf⟩ := bd_E hf
        refine hv_getR (pn := 56) X d_Of_send_53 fa_Of_45 hb9 ?_
        obtain ⟨_, hr10, hf⟩ := bd_E hf
        obtain ⟨v11, hv11, hf⟩ := bd_E hf
        refine hv_callV (pn := 59) X d_Of_send_56 (c_Al_size _ _ N σ b9 _ hv11) cs_Of_107 q_1_202 rfl q_1_203 hr10 (by decide) (by decide) ⟨Nat.le_refl _, Nat.le_refl _⟩ (Nat.le_of_ble_eq_true rfl) ?_
        refine hv_sipush (pn := 62) (v := 200) X d_Of_send_59 ?_
        refine hv_icmp_lt (pn := 65) (tgt := 73) X d_Of_send_62 (by decide) (fun hc => ?_) (fun hc => ?_)
        · rw [if_pos hc] at hf
          obtain ⟨σ12, b13, hσ12, hf⟩ := bd2_E hf
          refine hv_new (pn := 76) X d_Of_send_73 nw_Of_114 hσ12 ?_
          refine hv_dup (pn := 77) X d_Of_send_76 rfl ?_
          refine hv_iload_n (pn := 78) X d_Of_send_77 ?_
          refine hv_iconst (pn := 79) (v := 0) X d_Of_send_78 ?_
          refine hv_iload_n (pn := 80) X d_Of_send_79 ?_
          obtain ⟨σ14, hσ14, hf⟩ := bd_E hf
          obtain ⟨hσ14, mσ14⟩ := ho_cv_E hσ14
          refine hv_callI (pn := 83) X d_Of_send_80 (c_Pk_init1 _ _ N σ12 b13 v6 0 x1 _ hσ14) cs_Of_116 rfl q_2_180 (by decide) (by decide) mσ14 (Nat.le_of_ble_eq_true rfl) ?_
          refine hv_astore_n (pn := 84) (i := 3) (lo' := [some (.ref a0), some (.int x1), some (.int v6), some (.ref b13), none]) X d_Of_send_83 ?_
          refine hv_iconst (pn := 85) (v := 0) X d_Of_send_84 ?_
          refine hv_istore (pn := 87) (i := 4) (lo' := [some (.ref a0), some (.int x1), some (.int v6), some (.ref b13), some (.int 0)]) X d_Of_send_85 ?_
          refine hv_drop (i := 2) (lo' := [some (.ref a0), some (.int x1), none, some (.ref b13), some (.int 0)]) ?_
          obtain ⟨σ19, he24, hf⟩ := bd_E hf
          refine hv_loop (P := fun s => hv_V k s.1 87 [some (.ref a0), some (.int x1), none, some (.ref b13), some (.int s.2)] []) (Z := fun s => hv_V k s 118 [some (.ref a0), none, none, some (.ref b13), none] []) (fun s r h1 h2 => by obtain ⟨σ, x4⟩ := s; exact w_Of_send_l87 X HL N a0 x1 b13 σ x4 r h1 h2) N (σ14, 0) _ he24 ?_
          try dsimp only at hf ⊢
          refine hv_aload_n (pn := 119) X d_Of_send_118 ?_
          refine hv_aload_n (pn := 120) X d_Of_send_119 ?_
          obtain ⟨_, hr20, hf⟩ := bd_E hf
          obtain ⟨σ21, v22, hσ21, hf⟩ := bd2_E hf
          obtain ⟨hσ21, mσ21⟩ := ho_ck_E hσ21
          refine hv_callV (pn := 123) X d_Of_send_120 (c_Of_post _ _ N σ19 a0 b13 _ _ hσ21) cs_Of_120 q_2_192 rfl qs_Of_post hr20 (by decide) (by decide) mσ21 (Nat.le_of_ble_eq_true rfl) ?_
          cases hf
          exact hx_iret X d_Of_send_123 E
        · rw [if_neg hc] at hf
          obtain ⟨σ25, hσ25, hf⟩ := bd_E hf
          cases hf
          exact hx_throw (i := 3) X HL d_Of_send_65 d_Of_send_68 d_Of_send_69 d_Of_send_72 rfl th_Of_111 hσ25 (by decide) (by decide) (Nat.le_of_ble_eq_true rfl) E
      · rw [if_neg hc] at hf
        obtain ⟨σ26, hσ26, hf⟩ := bd_E hf
        cases hf
        exact hx_throw (i := 0) X HL d_Of_send_44 d_Of_send_47 d_Of_send_48 d_Of_send_51 rfl th_Of_62 hσ26 (by decide) (by decide) (Nat.le_of_ble_eq_true rfl) E
    · rw [if_neg hc] at hf
      refine hv_drop (i := 0) (lo' := [none, some (.int x1), none, none, none]) ?_
      refine hv_drop (i := 1) (lo' := [none, none, none, none, none]) ?_
      exact w_Of_send_j10 X HL N σ   _ hf E
set_option maxHeartbeats 4000000 in
set_option maxRecDepth 100000 in
theorem c_Of_root (l : Launch) (hlt : l.stackTraces = false) (G : ho_G) (N : Nat) (σ : ho_H) (a0 : Nat) (σ' : ho_H) (o : Nat ⊕ Int32) (hf : f_Of_root G N σ a0 = some (σ', o)) : hx_C l G y_Of_root (Cond.code y_Of_root b_Of_root 4 (some (.int)) :: hv_ws) 8 215 [.ref a0] σ σ' (ox_i o) := by
  refine hx_met [some (.ref a0), none, none, none] hlt (by decide +kernel) (by intro v hv; simp at hv; rcases hv with rfl <;> rfl) (Nat.le_of_ble_eq_true rfl) rfl ?_
  intro k X HL hkl hkG E
  subst hkl
  subst hkG
  unfold f_Of_root at hf
  refine hv_aload_n (pn := 1) X d_Of_root_0 ?_
  obtain ⟨b1, hb1, hf⟩ := bd_E hf
  refine hv_getR (pn := 4) X d_Of_root_1 fa_Of_18 hb1 ?_
  refine hv_aload_n (pn := 5) X d_Of_root_4 ?_
  obtain ⟨b2, hb2, hf⟩ := bd_E hf
  refine hv_getR (pn := 8) X d_Of_root_5 fa_Of_18 hb2 ?_
  obtain ⟨v3, hv3, hf⟩ := bd_E hf
  refine hv_getI (pn := 11) X d_Of_root_8 fa_Of_77 hv3 ?_
  obtain ⟨_, hr4, hf⟩ := bd_E hf
  obtain ⟨v5, hv5, hf⟩ := bd_E hf
  refine hv_callV (pn := 14) X d_Of_root_11 (c_Ck_intervalAt _ _ N σ b1 v3 _ hv5) cs_Of_80 q_1_198 rfl q_1_199 hr4 (by decide) (by decide) ⟨Nat.le_refl _, Nat.le_refl _⟩ (Nat.le_of_ble_eq_true rfl) ?_
  refine hv_istore_n (pn := 15) (i := 1) (lo' := [some (.ref a0), some (.int v5), none, none]) X d_Of_root_14 ?_
  refine hv_iload_n (pn := 16) X d_Of_root_15 ?_
  obtain ⟨v6, hv6, hf⟩ := bd_E hf
  refine hv_callS (pn := 19) X d_Of_root_16 (c_Of_chainOf _ _ N σ v5 _ hv6) cs_Of_104 q_2_160 (by decide) (by decide) ⟨Nat.le_refl _, Nat.le_refl _⟩ (Nat.le_of_ble_eq_true rfl) ?_
  refine hv_iconst (pn := 20) (v := 1) X d_Of_root_19 ?_
  refine hv_iadd (pn := 21) X d_Of_root_20 ?_
  refine hv_istore_n (pn := 22) (i := 2) (lo' := [some (.ref a0), some (.int v5), some (.int (v6 + 1)), none]) X d_Of_root_21 ?_
  refine hv_iload_n (pn := 23) X d_Of_root_22 ?_
  refine hv_aload_n (pn := 24) X d_Of_root_23 ?_
  obtain ⟨v7, hv7, hf⟩ := bd_E hf
  refine hv_getI (pn := 27) X d_Of_root_24 fa_Of_58 hv7 ?_
  refine hv_icmp_lt (pn := 30) (tgt := 38) X d_Of_root_27 (by decide) (fun hc => ?_) (fun hc => ?_)
  · rw [if_pos hc] at hf
    refine hv_aload_n (pn := 39) X d_Of_root_38 ?_
    obtain ⟨b8, hb8, hf⟩ := bd_E hf
    refine hv_getR (pn := 42) X d_Of_root_39 fa_Of_45 hb8 ?_
    obtain ⟨_, hr9, hf⟩ := bd_E hf
    obtain ⟨v10, hv10, hf⟩ := bd_E hf
    refine hv_callV (pn := 45) X d_Of_root_42 (c_Al_size _ _ N σ b8 _ hv10) cs_Of_107 q_1_202 rfl q_1_203 hr9 (by decide) (by decide) ⟨Nat.le_refl _, Nat.le_refl _⟩ (Nat.le_of_ble_eq_true rfl) ?_
    refine hv_sipush (pn := 48) (v := 200) X d_Of_root_45 ?_
    refine hv_icmp_lt (pn := 51) (tgt := 59) X d_Of_root_48 (by decide) (fun hc => ?_) (fun hc => ?_)
    · rw [if_pos hc] at hf
      obtain ⟨σ11, b12, hσ11, hf⟩ := bd2_E hf
      refine hv_new (pn := 62) X d_Of_root_59 nw_Of_114 hσ11 ?_
      refine hv_dup (pn := 63) X d_Of_root_62 rfl ?_
      refine hv_iload_n (pn := 64) X d_Of_root_63 ?_
      refine hv_iconst (pn := 65) (v := 1) X d_Of_root_64 ?_
      refine hv_bipush (pn := 67) (v := 20) X d_Of_root_65 ?_
      obtain ⟨σ13, hσ13, hf⟩ := bd_E hf
      obtain ⟨hσ13, mσ13⟩ := ho_cv_E hσ13
      refine hv_callI (pn := 70) X d_Of_root_67 (c_Pk_init1 _ _ N σ11 b12 v5 1 20 _ hσ13) cs_Of_116 rfl q_2_180 (by decide) (by decide) mσ13 (Nat.le_of_ble_eq_true rfl) ?_
      refine hv_astore_n (pn := 71) (i := 3) (lo' := [some (.ref a0), some (.int v5), some (.int (v6 + 1)), some (.ref b12)]) X d_Of_root_70 ?_
      refine hv_aload_n (pn := 72) X d_Of_root_71 ?_
      obtain ⟨b14, hb14, hf⟩ := bd_E hf
      refine hv_getR (pn := 75) X d_Of_root_72 fa_Of_37 hb14 ?_
      refine hv_iload_n (pn := 76) X d_Of_root_75 ?_
      obtain ⟨b15, hb15, hf⟩ := bd_E hf
      refine hv_aald (pn := 77) X d_Of_root_76 rfl hb15 ?_
      refine hv_iconst (pn := 78) (v := 0) X d_Of_root_77 ?_
      refine hv_aload_n (pn := 79) X d_Of_root_78 ?_
      obtain ⟨b16, hb16, hf⟩ := bd_E hf
      refine hv_getR (pn := 82) X d_Of_root_79 fa_Of_117 hb16 ?_
      refine hv_bipush (pn := 84) (v := 6) X d_Of_root_82 ?_
      obtain ⟨_, hr17, hf⟩ := bd_E hf
      obtain ⟨σ18, hσ18, hf⟩ := bd_E hf
      obtain ⟨hσ18, mσ18⟩ := ho_cv_E hσ18
      refine hv_callV (pn := 87) X d_Of_root_84 (c_Kc_writeKey _ _ N σ13 b15 0 b16 6 _ hσ18) cs_Of_124 q_2_229 rfl q_2_230 hr17 (by decide) (by decide) mσ18 (Nat.le_of_ble_eq_true rfl) ?_
      refine hv_aload_n (pn := 88) X d_Of_root_87 ?_
      refine hv_aload_n (pn := 89) X d_Of_root_88 ?_
      obtain ⟨_, hr19, hf⟩ := bd_E hf
      obtain ⟨σ20, v21, hσ20, hf⟩ := bd2_E hf
      obtain ⟨hσ20, mσ20⟩ := ho_ck_E hσ20
      refine hv_callV (pn := 92) X d_Of_root_89 (c_Of_post _ _ N σ18 a0 b12 _ _ hσ20) cs_Of_120 q_2_192 rfl qs_Of_post hr19 (by decide) (by decide) mσ20 (Nat.le_of_ble_eq_true rfl) ?_
      cases hf
      exact hx_iret X d_Of_root_92 E
    · rw [if_neg hc] at hf
      obtain ⟨σ22, hσ22, hf⟩ := bd_E hf
      cases hf
      exact hx_throw (i := 3) X HL d_Of_root_51 d_Of_root_54 d_Of_root_55 d_Of_root_58 rfl th_Of_111 hσ22 (by decide) (by decide) (Nat.le_of_ble_eq_true rfl) E
  · rw [if_neg hc] at hf
    obtain ⟨σ23, hσ23, hf⟩ := bd_E hf
    cases hf
    exact hx_throw (i := 0) X HL d_Of_root_30 d_Of_root_33 d_Of_root_34 d_Of_root_37 rfl th_Of_62 hσ23 (by decide) (by decide) (Nat.le_of_ble_eq_true rfl) E
set_option maxHeartbeats 4000000 in
set_option maxRecDepth 100000 in
theorem c_Of_packet (l : Launch) (hlt : l.stackTraces = false) (G : ho_G) (N : Nat) (σ : ho_H) (a0 : Nat) (x1 : Int32) (x2 : Int32) (σ' : ho_H) (o : Nat ⊕ Int32) (hf : f_Of_packet G N σ a0 x1 x2 = some (σ', o)) : hx_C l G y_Of_packet (Cond.code y_Of_packet b_Of_packet 3 (some (.int)) :: hv_ws) 6 160 [.ref a0, .int x1, .int x2] σ σ' (ox_i o) := by
  refine hx_met [some (.ref a0), some (.int x1), some (.int x2)] hlt (by decide +kernel) (by intro v hv; simp at hv; rcases hv with rfl | rfl | rfl <;> rfl) (Nat.le_of_ble_eq_true rfl) rfl ?_
  intro k X HL hkl hkG E
  subst hkl
  subst hkG
  unfold f_Of_packet at hf
  refine hv_aload_n (pn := 1) X d_Of_packet_0 ?_
  refine hv_iload_n (pn := 2) X d_Of_packet_1 ?_
  refine hv_iload_n (pn := 3) X d_Of_packet_2 ?_
  obtain ⟨_, hr1, hf⟩ := bd_E hf
  obtain ⟨v2, hv2, hf⟩ := bd_E hf
  refine hv_callV (pn := 6) X d_Of_packet_3 (c_Of_hasPacketByte _ _ N σ a0 x1 x2 _ hv2) cs_Of_128 q_3_70 rfl qs_Of_hasPacketByte hr1 (by decide) (by decide) ⟨Nat.le_refl _, Nat.le_refl _⟩ (Nat.le_of_ble_eq_true rfl) ?_
  refine hv_if_ne (pn := 9) (tgt := 17) X d_Of_packet_6 (by decide) (fun hc => ?_) (fun hc => ?_)
  · rw [if_pos hc] at hf
    refine hv_aload_n (pn := 18) X d_Of_packet_17 ?_
    obtain ⟨b3, hb3, hf⟩ := bd_E hf
    refine hv_getR (pn := 21) X d_Of_packet_18 fa_Of_45 hb3 ?_
    refine hv_iload_n (pn := 22) X d_Of_packet_21 ?_
    obtain ⟨_, hr4, hf⟩ := bd_E hf
    obtain ⟨b5, hb5, hf⟩ := bd_E hf
    refine hv_callV (pn := 25) X d_Of_packet_22 (c_Al_get _ _ N σ b3 x1 _ hb5) cs_Of_132 q_3_73 rfl q_3_74 hr4 (by decide) (by decide) ⟨Nat.le_refl _, Nat.le_refl _⟩ (Nat.le_of_ble_eq_true rfl) ?_
    obtain ⟨_, hr6, hf⟩ := bd_E hf
    refine hv_cast_o (pn := 28) X d_Of_packet_25 q_2_177 rfl (List.mem_of_getElem? (i := 5) rfl) hr6 ?_
    obtain ⟨b7, hb7, hf⟩ := bd_E hf
    refine hv_getR (pn := 31) X d_Of_packet_28 fa_Of_117 hb7 ?_
    refine hv_iload_n (pn := 32) X d_Of_packet_31 ?_
    obtain ⟨v8, hv8, hf⟩ := bd_E hf
    refine hv_iald (pn := 33) X d_Of_packet_32 hv8 ?_
    cases hf
    exact hx_iret X d_Of_packet_33 E
  · rw [if_neg hc] at hf
    obtain ⟨σ9, hσ9, hf⟩ := bd_E hf
    cases hf
    exact hx_throw (i := 2) X HL d_Of_packet_9 d_Of_packet_12 d_Of_packet_13 d_Of_packet_16 rfl th_Of_84 hσ9 (by decide) (by decide) (Nat.le_of_ble_eq_true rfl) E
set_option maxHeartbeats 4000000 in
set_option maxRecDepth 100000 in
theorem w_Of_key_j21 {k : mk_T} (X : hv_X k b_Of_key y_Of_key.cls 5 6 160 (some (.int)) y_Of_key.name) (HL : hx_L k) (N : Nat) (σ : ho_H)   (r : ho_H × (Nat ⊕ Int32)) (hf : f_Of_key_j21 k.2.1 N σ  = some r) (E : hx_end k r.1 (ox_i r.2)) : hv_V k σ 21 [none, none, none, none, none] [] := by
  unfold f_Of_key_j21 at hf
  obtain ⟨σ1, hσ1, hf⟩ := bd_E hf
  cases hf
  exact hx_throw (i := 2) X HL d_Of_key_21 d_Of_key_24 d_Of_key_25 d_Of_key_28 rfl th_Of_84 hσ1 (by decide) (by decide) (Nat.le_of_ble_eq_true rfl) E
set_option maxHeartbeats 4000000 in
set_option maxRecDepth 100000 in
theorem w_Of_key_j64 {k : mk_T} (X : hv_X k b_Of_key y_Of_key.cls 5 6 160 (some (.int)) y_Of_key.name) (HL : hx_L k) (N : Nat) (σ : ho_H) (a0 : Nat) (x2 : Int32) (x3 : Int32) (x4 : Int32)  (r : ho_H × (Nat ⊕ Int32)) (hf : f_Of_key_j64 k.2.1 N σ a0 x2 x3 x4 = some r) (E : hx_end k r.1 (ox_i r.2)) : hv_V k σ 64 [some (.ref a0), none, some (.int x2), some (.int x3), some (.int x4)] [] := by
  unfold f_Of_key_j64 at hf
  refine hv_iload_n (pn := 65) X d_Of_key_64 ?_
  refine hv_aload_n (pn := 66) X d_Of_key_65 ?_
  obtain ⟨v3, hv3, hf⟩ := bd_E hf
  refine hv_getI (pn := 69) X d_Of_key_66 fa_Of_58 hv3 ?_
  refine hv_icmp_lt (pn := 72) (tgt := 80) X d_Of_key_69 (by decide) (fun hc => ?_) (fun hc => ?_)
  · rw [if_pos hc] at hf
    refine hv_aload_n (pn := 81) X d_Of_key_80 ?_
    obtain ⟨b4, hb4, hf⟩ := bd_E hf
    refine hv_getR (pn := 84) X d_Of_key_81 fa_Of_37 hb4 ?_
    refine hv_iload_n (pn := 85) X d_Of_key_84 ?_
    obtain ⟨b5, hb5, hf⟩ := bd_E hf
    refine hv_aald (pn := 86) X d_Of_key_85 rfl hb5 ?_
    refine hv_iload (pn := 88) X d_Of_key_86 ?_
    refine hv_iload_n (pn := 89) X d_Of_key_88 ?_
    obtain ⟨_, hr6, hf⟩ := bd_E hf
    obtain ⟨v7, hv7, hf⟩ := bd_E hf
    refine hv_callV (pn := 92) X d_Of_key_89 (c_Kc_byteAt _ _ N σ b5 x4 x2 _ hv7) cs_Of_136 q_2_233 rfl q_2_234 hr6 (by decide) (by decide) ⟨Nat.le_refl _, Nat.le_refl _⟩ (Nat.le_of_ble_eq_true rfl) ?_
    cases hf
    exact hx_iret X d_Of_key_92 E
  · rw [if_neg hc] at hf
    obtain ⟨σ8, hσ8, hf⟩ := bd_E hf
    cases hf
    exact hx_throw (i := 0) X HL d_Of_key_72 d_Of_key_75 d_Of_key_76 d_Of_key_79 rfl th_Of_62 hσ8 (by decide) (by decide) (Nat.le_of_ble_eq_true rfl) E
set_option maxHeartbeats 4000000 in
set_option maxRecDepth 100000 in
theorem c_Of_key (l : Launch) (hlt : l.stackTraces = false) (G : ho_G) (N : Nat) (σ : ho_H) (a0 : Nat) (x1 : Int32) (x2 : Int32) (σ' : ho_H) (o : Nat ⊕ Int32) (hf : f_Of_key G N σ a0 x1 x2 = some (σ', o)) : hx_C l G y_Of_key (Cond.code y_Of_key b_Of_key 5 (some (.int)) :: hv_ws) 6 160 [.ref a0, .int x1, .int x2] σ σ' (ox_i o) := by
  refine hx_met [some (.ref a0), some (.int x1), some (.int x2), none, none] hlt (by decide +kernel) (by intro v hv; simp at hv; rcases hv with rfl | rfl | rfl <;> rfl) (Nat.le_of_ble_eq_true rfl) rfl ?_
  intro k X HL hkl hkG E
  subst hkl
  subst hkG
  unfold f_Of_key at hf
  refine hv_iload_n (pn := 1) X d_Of_key_0 ?_
  refine hv_if_lt (pn := 4) (tgt := 21) X d_Of_key_1 (by decide) (fun hc => ?_) (fun hc => ?_)
  · rw [if_pos hc] at hf
    refine hv_drop (i := 0) (lo' := [none, some (.int x1), some (.int x2), none, none]) ?_
    refine hv_drop (i := 1) (lo' := [none, none, some (.int x2), none, none]) ?_
    refine hv_drop (i := 2) (lo' := [none, none, none, none, none]) ?_
    exact w_Of_key_j21 X HL N σ   _ hf E
  · rw [if_neg hc] at hf
    refine hv_iload_n (pn := 5) X d_Of_key_4 ?_
    refine hv_sipush (pn := 8) (v := 512) X d_Of_key_5 ?_
    refine hv_icmp_gt (pn := 11) (tgt := 21) X d_Of_key_8 (by decide) (fun hc => ?_) (fun hc => ?_)
    · rw [if_pos hc] at hf
      refine hv_drop (i := 0) (lo' := [none, some (.int x1), some (.int x2), none, none]) ?_
      refine hv_drop (i := 1) (lo' := [none, none, some (.int x2), none, none]) ?_
      refine hv_drop (i := 2) (lo' := [none, none, none, none, none]) ?_
      exact w_Of_key_j21 X HL N σ   _ hf E
    · rw [if_neg hc] at hf
      refine hv_iload_n (pn := 12) X d_Of_key_11 ?_
      refine hv_if_lt (pn := 15) (tgt := 21) X d_Of_key_12 (by decide) (fun hc => ?_) (fun hc => ?_)
      · rw [if_pos hc] at hf
        refine hv_drop (i := 0) (lo' := [none, some (.int x1), some (.int x2), none, none]) ?_
        refine hv_drop (i := 1) (lo' := [none, none, some (.int x2), none, none]) ?_
        refine hv_drop (i := 2) (lo' := [none, none, none, none, none]) ?_
        exact w_Of_key_j21 X HL N σ   _ hf E
      · rw [if_neg hc] at hf
        refine hv_iload_n (pn := 16) X d_Of_key_15 ?_
        refine hv_bipush (pn := 18) (v := 20) X d_Of_key_16 ?_
        refine hv_icmp_lt (pn := 21) (tgt := 29) X d_Of_key_18 (by decide) (fun hc => ?_) (fun hc => ?_)
        · rw [if_pos hc] at hf
          refine hv_iload_n (pn := 30) X d_Of_key_29 ?_
          refine hv_bipush (pn := 32) (v := 64) X d_Of_key_30 ?_
          refine hv_idiv (pn := 33) X d_Of_key_32 (by decide) ?_
          refine hv_istore_n (pn := 34) (i := 3) (lo' := [some (.ref a0), some (.int x1), some (.int x2), some (.int (x1 / 64)), none]) X d_Of_key_33 ?_
          refine hv_iload_n (pn := 35) X d_Of_key_34 ?_
          refine hv_bipush (pn := 37) (v := 64) X d_Of_key_35 ?_
          refine hv_irem (pn := 38) X d_Of_key_37 (by decide) ?_
          refine hv_istore (pn := 40) (i := 4) (lo' := [some (.ref a0), some (.int x1), some (.int x2), some (.int (x1 / 64)), some (.int (ho_rm x1 64))]) X d_Of_key_38 ?_
          refine hv_iload_n (pn := 41) X d_Of_key_40 ?_
          refine hv_aload_n (pn := 42) X d_Of_key_41 ?_
          obtain ⟨v2, hv2, hf⟩ := bd_E hf
          refine hv_getI (pn := 45) X d_Of_key_42 fa_Of_58 hv2 ?_
          refine hv_icmp_lt (pn := 48) (tgt := 64) X d_Of_key_45 (by decide) (fun hc => ?_) (fun hc => ?_)
          · rw [if_pos hc] at hf
            refine hv_drop (i := 1) (lo' := [some (.ref a0), none, some (.int x2), some (.int (x1 / 64)), some (.int (ho_rm x1 64))]) ?_
            exact w_Of_key_j64 X HL N σ a0 x2 (x1 / 64) (ho_rm x1 64)  _ hf E
          · rw [if_neg hc] at hf
            refine hv_iload_n (pn := 49) X d_Of_key_48 ?_
            refine hv_if_le (pn := 52) (tgt := 64) X d_Of_key_49 (by decide) (fun hc => ?_) (fun hc => ?_)
            · rw [if_pos hc] at hf
              refine hv_drop (i := 1) (lo' := [some (.ref a0), none, some (.int x2), some (.int (x1 / 64)), some (.int (ho_rm x1 64))]) ?_
              exact w_Of_key_j64 X HL N σ a0 x2 (x1 / 64) (ho_rm x1 64)  _ hf E
            · rw [if_neg hc] at hf
              refine hv_iload (pn := 54) X d_Of_key_52 ?_
              refine hv_if_ne (pn := 57) (tgt := 64) X d_Of_key_54 (by decide) (fun hc => ?_) (fun hc => ?_)
              · rw [if_pos hc] at hf
                refine hv_drop (i := 1) (lo' := [some (.ref a0), none, some (.int x2), some (.int (x1 / 64)), some (.int (ho_rm x1 64))]) ?_
                exact w_Of_key_j64 X HL N σ a0 x2 (x1 / 64) (ho_rm x1 64)  _ hf E
              · rw [if_neg hc] at hf
                refine hv_iinc (pn := 60) (i := 3) (v := (x1 / 64) + (-1)) (lo' := [some (.ref a0), some (.int x1), some (.int x2), some (.int ((x1 / 64) + (-1))), some (.int (ho_rm x1 64))]) X d_Of_key_57 ?_
                refine hv_bipush (pn := 62) (v := 64) X d_Of_key_60 ?_
                refine hv_istore (pn := 64) (i := 4) (lo' := [some (.ref a0), some (.int x1), some (.int x2), some (.int ((x1 / 64) + (-1))), some (.int 64)]) X d_Of_key_62 ?_
                refine hv_drop (i := 1) (lo' := [some (.ref a0), none, some (.int x2), some (.int ((x1 / 64) + (-1))), some (.int 64)]) ?_
                exact w_Of_key_j64 X HL N σ a0 x2 ((x1 / 64) + (-1)) 64  _ hf E
        · rw [if_neg hc] at hf
          refine hv_drop (i := 0) (lo' := [none, some (.int x1), some (.int x2), none, none]) ?_
          refine hv_drop (i := 1) (lo' := [none, none, some (.int x2), none, none]) ?_
          refine hv_drop (i := 2) (lo' := [none, none, none, none, none]) ?_
          exact w_Of_key_j21 X HL N σ   _ hf E
set_option maxHeartbeats 4000000 in
set_option maxRecDepth 100000 in
theorem w_Of_join_j19 {k : mk_T} (X : hv_X k b_Of_join y_Of_join.cls 4 6 160 none y_Of_join.name) (HL : hx_L k) (N : Nat) (σ : ho_H)   (r : ho_H × (Nat ⊕ Unit)) (hf : f_Of_join_j19 k.2.1 N σ  = some r) (E : hx_end k r.1 (ox_v r.2)) : hv_V k σ 19 [none, none, none, none] [] := by
  unfold f_Of_join_j19 at hf
  obtain ⟨σ3, hσ3, hf⟩ := bd_E hf
  cases hf
  exact hx_throw (i := 2) X HL d_Of_join_19 d_Of_join_22 d_Of_join_23 d_Of_join_26 rfl th_Of_84 hσ3 (by decide) (by decide) (Nat.le_of_ble_eq_true rfl) E
set_option maxHeartbeats 4000000 in
set_option maxRecDepth 100000 in
theorem c_Of_join (l : Launch) (hlt : l.stackTraces = false) (G : ho_G) (N : Nat) (σ : ho_H) (a0 : Nat) (x1 : Int32) (x2 : Int32) (σ' : ho_H) (o : Nat ⊕ Unit) (hf : f_Of_join G N σ a0 x1 x2 = some (σ', o)) : hx_C l G y_Of_join (Cond.code y_Of_join b_Of_join 4 none :: hv_ws) 6 160 [.ref a0, .int x1, .int x2] σ σ' (ox_v o) := by
  refine hx_met [some (.ref a0), some (.int x1), some (.int x2), none] hlt (by decide +kernel) (by intro v hv; simp at hv; rcases hv with rfl | rfl | rfl <;> rfl) (Nat.le_of_ble_eq_true rfl) rfl ?_
  intro k X HL hkl hkG E
  subst hkl
  subst hkG
  unfold f_Of_join at hf
  refine hv_aload_n (pn := 1) X d_Of_join_0 ?_
  refine hv_iload_n (pn := 2) X d_Of_join_1 ?_
  obtain ⟨_, hr1, hf⟩ := bd_E hf
  obtain ⟨v2, hv2, hf⟩ := bd_E hf
  refine hv_callV (pn := 5) X d_Of_join_2 (c_Of_isReceiver _ _ N σ a0 x1 _ hv2) cs_Of_139 q_3_103 rfl qs_Of_isReceiver hr1 (by decide) (by decide) ⟨Nat.le_refl _, Nat.le_refl _⟩ (Nat.le_of_ble_eq_true rfl) ?_
  refine hv_if_eq (pn := 8) (tgt := 19) X d_Of_join_5 (by decide) (fun hc => ?_) (fun hc => ?_)
  · rw [if_pos hc] at hf
    refine hv_drop (i := 0) (lo' := [none, some (.int x1), some (.int x2), none]) ?_
    refine hv_drop (i := 1) (lo' := [none, none, some (.int x2), none]) ?_
    refine hv_drop (i := 2) (lo' := [none, none, none, none]) ?_
    exact w_Of_join_j19 X HL N σ   _ hf E
  · rw [if_neg hc] at hf
    refine hv_iload_n (pn := 9) X d_Of_join_8 ?_
    refine hv_if_lt (pn := 12) (tgt := 19) X d_Of_join_9 (by decide) (fun hc => ?_) (fun hc => ?_)
    · rw [if_pos hc] at hf
      refine hv_drop (i := 0) (lo' := [none, some (.int x1), some (.int x2), none]) ?_
      refine hv_drop (i := 1) (lo' := [none, none, some (.int x2), none]) ?_
      refine hv_drop (i := 2) (lo' := [none, none, none, none]) ?_
      exact w_Of_join_j19 X HL N σ   _ hf E
    · rw [if_neg hc] at hf
      refine hv_iload_n (pn := 13) X d_Of_join_12 ?_
      refine hv_sipush (pn := 16) (v := 512) X d_Of_join_13 ?_
      refine hv_icmp_lt (pn := 19) (tgt := 27) X d_Of_join_16 (by decide) (fun hc => ?_) (fun hc => ?_)
      · rw [if_pos hc] at hf
        refine hv_iload_n (pn := 28) X d_Of_join_27 ?_
        refine hv_bipush (pn := 30) (v := 64) X d_Of_join_28 ?_
        refine hv_idiv (pn := 31) X d_Of_join_30 (by decide) ?_
        refine hv_istore_n (pn := 32) (i := 3) (lo' := [some (.ref a0), some (.int x1), some (.int x2), some (.int (x2 / 64))]) X d_Of_join_31 ?_
        refine hv_iload_n (pn := 33) X d_Of_join_32 ?_
        refine hv_aload_n (pn := 34) X d_Of_join_33 ?_
        obtain ⟨v4, hv4, hf⟩ := bd_E hf
        refine hv_getI (pn := 37) X d_Of_join_34 fa_Of_58 hv4 ?_
        refine hv_icmp_lt (pn := 40) (tgt := 48) X d_Of_join_37 (by decide) (fun hc => ?_) (fun hc => ?_)
        · rw [if_pos hc] at hf
          refine hv_aload_n (pn := 49) X d_Of_join_48 ?_
          obtain ⟨b5, hb5, hf⟩ := bd_E hf
          refine hv_getR (pn := 52) X d_Of_join_49 fa_Of_51 hb5 ?_
          refine hv_iload_n (pn := 53) X d_Of_join_52 ?_
          obtain ⟨b6, hb6, hf⟩ := bd_E hf
          refine hv_aald (pn := 54) X d_Of_join_53 rfl hb6 ?_
          obtain ⟨_, hr7, hf⟩ := bd_E hf
          obtain ⟨σ8, hσ8, hf⟩ := bd_E hf
          obtain ⟨hσ8, mσ8⟩ := ho_cv_E hσ8
          refine hv_callV (pn := 57) X d_Of_join_54 (c_Rc_beginAnew _ _ N σ b6 _ hσ8) cs_Of_143 q_3_106 rfl q_3_107 hr7 (by decide) (by decide) mσ8 (Nat.le_of_ble_eq_true rfl) ?_
          refine hv_aload_n (pn := 58) X d_Of_join_57 ?_
          obtain ⟨b9, hb9, hf⟩ := bd_E hf
          refine hv_getR (pn := 61) X d_Of_join_58 fa_Of_51 hb9 ?_
          refine hv_iload_n (pn := 62) X d_Of_join_61 ?_
          obtain ⟨b10, hb10, hf⟩ := bd_E hf
          refine hv_aald (pn := 63) X d_Of_join_62 rfl hb10 ?_
          obtain ⟨b11, hb11, hf⟩ := bd_E hf
          refine hv_getR (pn := 66) X d_Of_join_63 fa_Of_146 hb11 ?_
          refine hv_iload_n (pn := 67) X d_Of_join_66 ?_
          obtain ⟨b12, hb12, hf⟩ := bd_E hf
          refine hv_aald (pn := 68) X d_Of_join_67 rfl hb12 ?_
          refine hv_aload_n (pn := 69) X d_Of_join_68 ?_
          obtain ⟨b13, hb13, hf⟩ := bd_E hf
          refine hv_getR (pn := 72) X d_Of_join_69 fa_Of_37 hb13 ?_
          refine hv_iload_n (pn := 73) X d_Of_join_72 ?_
          obtain ⟨b14, hb14, hf⟩ := bd_E hf
          refine hv_aald (pn := 74) X d_Of_join_73 rfl hb14 ?_
          refine hv_iload_n (pn := 75) X d_Of_join_74 ?_
          refine hv_bipush (pn := 77) (v := 64) X d_Of_join_75 ?_
          refine hv_irem (pn := 78) X d_Of_join_77 (by decide) ?_
          obtain ⟨_, hr15, hf⟩ := bd_E hf
          obtain ⟨σ16, hσ16, hf⟩ := bd_E hf
          obtain ⟨hσ16, mσ16⟩ := ho_cv_E hσ16
          refine hv_callV (pn := 81) X d_Of_join_78 (c_Kc_learnFrom _ _ N σ8 b12 b14 (ho_rm x2 64) _ hσ16) cs_Of_149 q_3_119 rfl q_3_120 hr15 (by decide) (by decide) mσ16 (Nat.le_of_ble_eq_true rfl) ?_
          cases hf
          exact hx_vret X d_Of_join_81 E
        · rw [if_neg hc] at hf
          obtain ⟨σ17, hσ17, hf⟩ := bd_E hf
          cases hf
          exact hx_throw (i := 0) X HL d_Of_join_40 d_Of_join_43 d_Of_join_44 d_Of_join_47 rfl th_Of_62 hσ17 (by decide) (by decide) (Nat.le_of_ble_eq_true rfl) E
      · rw [if_neg hc] at hf
        refine hv_drop (i := 0) (lo' := [none, some (.int x1), some (.int x2), none]) ?_
        refine hv_drop (i := 1) (lo' := [none, none, some (.int x2), none]) ?_
        refine hv_drop (i := 2) (lo' := [none, none, none, none]) ?_
        exact w_Of_join_j19 X HL N σ   _ hf E
set_option maxHeartbeats 4000000 in
set_option maxRecDepth 100000 in
theorem w_Of_drift_j30 {k : mk_T} (X : hv_X k b_Of_drift y_Of_drift.cls 4 6 160 (some (.int)) y_Of_drift.name) (HL : hx_L k) (N : Nat) (σ : ho_H)   (r : ho_H × (Nat ⊕ Int32)) (hf : f_Of_drift_j30 k.2.1 N σ  = some r) (E : hx_end k r.1 (ox_i r.2)) : hv_V k σ 30 [none, none, none, none] [] := by
  unfold f_Of_drift_j30 at hf
  obtain ⟨σ3, hσ3, hf⟩ := bd_E hf
  cases hf
  exact hx_throw (i := 1) X HL d_Of_drift_30 d_Of_drift_33 d_Of_drift_34 d_Of_drift_37 rfl th_Of_74 hσ3 (by decide) (by decide) (Nat.le_of_ble_eq_true rfl) E
set_option maxHeartbeats 4000000 in
set_option maxRecDepth 100000 in
theorem c_Of_drift (l : Launch) (hlt : l.stackTraces = false) (G : ho_G) (N : Nat) (σ : ho_H) (a0 : Nat) (x1 : Int32) (x2 : Int32) (σ' : ho_H) (o : Nat ⊕ Int32) (hf : f_Of_drift G N σ a0 x1 x2 = some (σ', o)) : hx_C l G y_Of_drift (Cond.code y_Of_drift b_Of_drift 4 (some (.int)) :: hv_ws) 6 160 [.ref a0, .int x1, .int x2] σ σ' (ox_i o) := by
  refine hx_met [some (.ref a0), some (.int x1), some (.int x2), none] hlt (by decide +kernel) (by intro v hv; simp at hv; rcases hv with rfl | rfl | rfl <;> rfl) (Nat.le_of_ble_eq_true rfl) rfl ?_
  intro k X HL hkl hkG E
  subst hkl
  subst hkG
  unfold f_Of_drift at hf
  refine hv_aload_n (pn := 1) X d_Of_drift_0 ?_
  refine hv_iload_n (pn := 2) X d_Of_drift_1 ?_
  obtain ⟨_, hr1, hf⟩ := bd_E hf
  obtain ⟨v2, hv2, hf⟩ := bd_E hf
  refine hv_callV (pn := 5) X d_Of_drift_2 (c_Of_isReceiver _ _ N σ a0 x1 _ hv2) cs_Of_139 q_3_103 rfl qs_Of_isReceiver hr1 (by decide) (by decide) ⟨Nat.le_refl _, Nat.le_refl _⟩ (Nat.le_of_ble_eq_true rfl) ?_
  refine hv_if_ne (pn := 8) (tgt := 16) X d_Of_drift_5 (by decide) (fun hc => ?_) (fun hc => ?_)
  · rw [if_pos hc] at hf
    refine hv_iload_n (pn := 17) X d_Of_drift_16 ?_
    refine hv_sipush (pn := 20) (v := (-10000)) X d_Of_drift_17 ?_
    refine hv_icmp_lt (pn := 23) (tgt := 30) X d_Of_drift_20 (by decide) (fun hc => ?_) (fun hc => ?_)
    · rw [if_pos hc] at hf
      refine hv_drop (i := 0) (lo' := [none, some (.int x1), some (.int x2), none]) ?_
      refine hv_drop (i := 1) (lo' := [none, none, some (.int x2), none]) ?_
      refine hv_drop (i := 2) (lo' := [none, none, none, none]) ?_
      exact w_Of_drift_j30 X HL N σ   _ hf E
    · rw [if_neg hc] at hf
      refine hv_iload_n (pn := 24) X d_Of_drift_23 ?_
      refine hv_sipush (pn := 27) (v := 10000) X d_Of_drift_24 ?_
      refine hv_icmp_le (pn := 30) (tgt := 38) X d_Of_drift_27 (by decide) (fun hc => ?_) (fun hc => ?_)
      · rw [if_pos hc] at hf
        refine hv_aload_n (pn := 39) X d_Of_drift_38 ?_
        obtain ⟨b4, hb4, hf⟩ := bd_E hf
        refine hv_getR (pn := 42) X d_Of_drift_39 fa_Of_51 hb4 ?_
        refine hv_iload_n (pn := 43) X d_Of_drift_42 ?_
        obtain ⟨b5, hb5, hf⟩ := bd_E hf
        refine hv_aald (pn := 44) X d_Of_drift_43 rfl hb5 ?_
        obtain ⟨v6, hv6, hf⟩ := bd_E hf
        refine hv_getI (pn := 47) X d_Of_drift_44 fa_Of_153 hv6 ?_
        refine hv_istore_n (pn := 48) (i := 3) (lo' := [some (.ref a0), some (.int x1), some (.int x2), some (.int v6)]) X d_Of_drift_47 ?_
        refine hv_aload_n (pn := 49) X d_Of_drift_48 ?_
        obtain ⟨b7, hb7, hf⟩ := bd_E hf
        refine hv_getR (pn := 52) X d_Of_drift_49 fa_Of_51 hb7 ?_
        refine hv_iload_n (pn := 53) X d_Of_drift_52 ?_
        obtain ⟨b8, hb8, hf⟩ := bd_E hf
        refine hv_aald (pn := 54) X d_Of_drift_53 rfl hb8 ?_
        refine hv_iload_n (pn := 55) X d_Of_drift_54 ?_
        obtain ⟨σ9, hσ9, hf⟩ := bd_E hf
        refine hv_put (pn := 58) X d_Of_drift_55 fp_Of_153 hσ9 ?_
        refine hv_iload_n (pn := 59) X d_Of_drift_58 ?_
        cases hf
        exact hx_iret X d_Of_drift_59 E
      · rw [if_neg hc] at hf
        refine hv_drop (i := 0) (lo' := [none, some (.int x1), some (.int x2), none]) ?_
        refine hv_drop (i := 1) (lo' := [none, none, some (.int x2), none]) ?_
        refine hv_drop (i := 2) (lo' := [none, none, none, none]) ?_
        exact w_Of_drift_j30 X HL N σ   _ hf E
  · rw [if_neg hc] at hf
    obtain ⟨σ10, hσ10, hf⟩ := bd_E hf
    cases hf
    exact hx_throw (i := 2) X HL d_Of_drift_8 d_Of_drift_11 d_Of_drift_12 d_Of_drift_15 rfl th_Of_84 hσ10 (by decide) (by decide) (Nat.le_of_ble_eq_true rfl) E
set_option maxHeartbeats 4000000 in
set_option maxRecDepth 100000 in
theorem w_Of_arrive_j17 {k : mk_T} (X : hv_X k b_Of_arrive y_Of_arrive.cls 7 10 260 (some (.int)) y_Of_arrive.name) (HL : hx_L k) (N : Nat) (σ : ho_H)   (r : ho_H × (Nat ⊕ Int32)) (hf : f_Of_arrive_j17 k.2.1 N σ  = some r) (E : hx_end k r.1 (ox_i r.2)) : hv_V k σ 17 [none, none, none, none, none, none, none] [] := by
  unfold f_Of_arrive_j17 at hf
  obtain ⟨σ3, hσ3, hf⟩ := bd_E hf
  cases hf
  exact hx_throw (i := 2) X HL d_Of_arrive_17 d_Of_arrive_20 d_Of_arrive_21 d_Of_arrive_24 rfl th_Of_84 hσ3 (by decide) (by decide) (Nat.le_of_ble_eq_true rfl) E
set_option maxHeartbeats 4000000 in
set_option maxRecDepth 100000 in
theorem w_Of_arrive_j38 {k : mk_T} (X : hv_X k b_Of_arrive y_Of_arrive.cls 7 10 260 (some (.int)) y_Of_arrive.name) (HL : hx_L k) (N : Nat) (σ : ho_H)   (r : ho_H × (Nat ⊕ Int32)) (hf : f_Of_arrive_j38 k.2.1 N σ  = some r) (E : hx_end k r.1 (ox_i r.2)) : hv_V k σ 38 [none, none, none, none, none, none, none] [] := by
  unfold f_Of_arrive_j38 at hf
  obtain ⟨σ6, hσ6, hf⟩ := bd_E hf
  cases hf
  exact hx_throw (i := 1) X HL d_Of_arrive_38 d_Of_arrive_41 d_Of_arrive_42 d_Of_arrive_45 rfl th_Of_74 hσ6 (by decide) (by decide) (Nat.le_of_ble_eq_true rfl) E
set_option maxHeartbeats 4000000 in
set_option maxRecDepth 100000 in
theorem c_Of_arrive (l : Launch) (hlt : l.stackTraces = false) (G : ho_G) (N : Nat) (σ : ho_H) (a0 : Nat) (x1 : Int32) (x2 : Int32) (x3 : Int32) (x4 : Int32) (σ' : ho_H) (o : Nat ⊕ Int32) (hf : f_Of_arrive G N σ a0 x1 x2 x3 x4 = some (σ', o)) : hx_C l G y_Of_arrive (Cond.code y_Of_arrive b_Of_arrive 7 (some (.int)) :: hv_ws) 10 260 [.ref a0, .int x1, .int x2, .int x3, .int x4] σ σ' (ox_i o) := by
  refine hx_met [some (.ref a0), some (.int x1), some (.int x2), some (.int x3), some (.int x4), none, none] hlt (by decide +kernel) (by intro v hv; simp at hv; rcases hv with rfl | rfl | rfl | rfl | rfl <;> rfl) (Nat.le_of_ble_eq_true rfl) rfl ?_
  intro k X HL hkl hkG E
  subst hkl
  subst hkG
  unfold f_Of_arrive at hf
  refine hv_aload_n (pn := 1) X d_Of_arrive_0 ?_
  refine hv_iload_n (pn := 2) X d_Of_arrive_1 ?_
  obtain ⟨_, hr1, hf⟩ := bd_E hf
  obtain ⟨v2, hv2, hf⟩ := bd_E hf
  refine hv_callV (pn := 5) X d_Of_arrive_2 (c_Of_isReceiver _ _ N σ a0 x1 _ hv2) cs_Of_139 q_3_103 rfl qs_Of_isReceiver hr1 (by decide) (by decide) ⟨Nat.le_refl _, Nat.le_refl _⟩ (Nat.le_of_ble_eq_true rfl) ?_
  refine hv_if_eq (pn := 8) (tgt := 17) X d_Of_arrive_5 (by decide) (fun hc => ?_) (fun hc => ?_)
  · rw [if_pos hc] at hf
    refine hv_drop (i := 0) (lo' := [none, some (.int x1), some (.int x2), some (.int x3), some (.int x4), none, none]) ?_
    refine hv_drop (i := 1) (lo' := [none, none, some (.int x2), some (.int x3), some (.int x4), none, none]) ?_
    refine hv_drop (i := 2) (lo' := [none, none, none, some (.int x3), some (.int x4), none, none]) ?_
    refine hv_drop (i := 3) (lo' := [none, none, none, none, some (.int x4), none, none]) ?_
    refine hv_drop (i := 4) (lo' := [none, none, none, none, none, none, none]) ?_
    exact w_Of_arrive_j17 X HL N σ   _ hf E
  · rw [if_neg hc] at hf
    refine hv_aload_n (pn := 9) X d_Of_arrive_8 ?_
    refine hv_iload_n (pn := 10) X d_Of_arrive_9 ?_
    refine hv_iload_n (pn := 11) X d_Of_arrive_10 ?_
    obtain ⟨_, hr4, hf⟩ := bd_E hf
    obtain ⟨v5, hv5, hf⟩ := bd_E hf
    refine hv_callV (pn := 14) X d_Of_arrive_11 (c_Of_hasPacketByte _ _ N σ a0 x2 x3 _ hv5) cs_Of_128 q_3_70 rfl qs_Of_hasPacketByte hr4 (by decide) (by decide) ⟨Nat.le_refl _, Nat.le_refl _⟩ (Nat.le_of_ble_eq_true rfl) ?_
    refine hv_if_ne (pn := 17) (tgt := 25) X d_Of_arrive_14 (by decide) (fun hc => ?_) (fun hc => ?_)
    · rw [if_pos hc] at hf
      refine hv_iload (pn := 27) X d_Of_arrive_25 ?_
      refine hv_if_lt (pn := 30) (tgt := 38) X d_Of_arrive_27 (by decide) (fun hc => ?_) (fun hc => ?_)
      · rw [if_pos hc] at hf
        refine hv_drop (i := 0) (lo' := [none, some (.int x1), some (.int x2), some (.int x3), some (.int x4), none, none]) ?_
        refine hv_drop (i := 1) (lo' := [none, none, some (.int x2), some (.int x3), some (.int x4), none, none]) ?_
        refine hv_drop (i := 2) (lo' := [none, none, none, some (.int x3), some (.int x4), none, none]) ?_
        refine hv_drop (i := 3) (lo' := [none, none, none, none, some (.int x4), none, none]) ?_
        refine hv_drop (i := 4) (lo' := [none, none, none, none, none, none, none]) ?_
        exact w_Of_arrive_j38 X HL N σ   _ hf E
      · rw [if_neg hc] at hf
        refine hv_iload (pn := 32) X d_Of_arrive_30 ?_
        refine hv_sipush (pn := 35) (v := 255) X d_Of_arrive_32 ?_
        refine hv_icmp_le (pn := 38) (tgt := 46) X d_Of_arrive_35 (by decide) (fun hc => ?_) (fun hc => ?_)
        · rw [if_pos hc] at hf
          obtain ⟨σ7, b8, hσ7, hf⟩ := bd2_E hf
          refine hv_new (pn := 49) X d_Of_arrive_46 nw_Of_114 hσ7 ?_
          refine hv_dup (pn := 50) X d_Of_arrive_49 rfl ?_
          refine hv_aload_n (pn := 51) X d_Of_arrive_50 ?_
          obtain ⟨b9, hb9, hf⟩ := bd_E hf
          refine hv_getR (pn := 54) X d_Of_arrive_51 fa_Of_45 hb9 ?_
          refine hv_iload_n (pn := 55) X d_Of_arrive_54 ?_
          obtain ⟨_, hr10, hf⟩ := bd_E hf
          obtain ⟨b11, hb11, hf⟩ := bd_E hf
          refine hv_callV (pn := 58) X d_Of_arrive_55 (c_Al_get _ _ N σ7 b9 x2 _ hb11) cs_Of_132 q_3_73 rfl q_3_74 hr10 (by decide) (by decide) ⟨Nat.le_refl _, Nat.le_refl _⟩ (Nat.le_of_ble_eq_true rfl) ?_
          obtain ⟨_, hr12, hf⟩ := bd_E hf
          refine hv_cast_o (pn := 61) X d_Of_arrive_58 q_2_177 rfl (List.mem_of_getElem? (i := 5) rfl) hr12 ?_
          obtain ⟨σ13, hσ13, hf⟩ := bd_E hf
          obtain ⟨hσ13, mσ13⟩ := ho_cv_E hσ13
          refine hv_callI (pn := 64) X d_Of_arrive_61 (c_Pk_init2 _ _ N σ7 b8 b11 _ hσ13) cs_Of_156 rfl q_3_137 (by decide) (by decide) mσ13 (Nat.le_of_ble_eq_true rfl) ?_
          refine hv_astore (pn := 66) (i := 5) (lo' := [some (.ref a0), some (.int x1), some (.int x2), some (.int x3), some (.int x4), some (.ref b8), none]) X d_Of_arrive_64 ?_
          refine hv_aload (pn := 68) X d_Of_arrive_66 ?_
          obtain ⟨b14, hb14, hf⟩ := bd_E hf
          refine hv_getR (pn := 71) X d_Of_arrive_68 fa_Of_117 hb14 ?_
          refine hv_iload_n (pn := 72) X d_Of_arrive_71 ?_
          refine hv_dup2 (pn := 73) X d_Of_arrive_72 rfl rfl ?_
          obtain ⟨v15, hv15, hf⟩ := bd_E hf
          refine hv_iald (pn := 74) X d_Of_arrive_73 hv15 ?_
          refine hv_iload (pn := 76) X d_Of_arrive_74 ?_
          refine hv_ixor (pn := 77) X d_Of_arrive_76 ?_
          obtain ⟨σ16, hσ16, hf⟩ := bd_E hf
          refine hv_iast (pn := 78) X d_Of_arrive_77 hσ16 ?_
          refine hv_aload_n (pn := 79) X d_Of_arrive_78 ?_
          obtain ⟨b17, hb17, hf⟩ := bd_E hf
          refine hv_getR (pn := 82) X d_Of_arrive_79 fa_Of_51 hb17 ?_
          refine hv_iload_n (pn := 83) X d_Of_arrive_82 ?_
          obtain ⟨b18, hb18, hf⟩ := bd_E hf
          refine hv_aald (pn := 84) X d_Of_arrive_83 rfl hb18 ?_
          refine hv_aload (pn := 86) X d_Of_arrive_84 ?_
          obtain ⟨_, hr19, hf⟩ := bd_E hf
          obtain ⟨σ20, v21, hσ20, hf⟩ := bd2_E hf
          obtain ⟨hσ20, mσ20⟩ := ho_ck_E hσ20
          refine hv_callV (pn := 89) X d_Of_arrive_86 (c_Rc_take _ _ N σ16 b18 b8 _ _ hσ20) cs_Of_159 q_3_147 rfl q_3_148 hr19 (by decide) (by decide) mσ20 (Nat.le_of_ble_eq_true rfl) ?_
          refine hv_istore (pn := 91) (i := 6) (lo' := [some (.ref a0), some (.int x1), some (.int x2), some (.int x3), some (.int x4), some (.ref b8), some (.int v21)]) X d_Of_arrive_89 ?_
          refine hv_aload_n (pn := 92) X d_Of_arrive_91 ?_
          obtain ⟨b22, hb22, hf⟩ := bd_E hf
          refine hv_getR (pn := 95) X d_Of_arrive_92 fa_Of_51 hb22 ?_
          refine hv_iload_n (pn := 96) X d_Of_arrive_95 ?_
          obtain ⟨b23, hb23, hf⟩ := bd_E hf
          refine hv_aald (pn := 97) X d_Of_arrive_96 rfl hb23 ?_
          obtain ⟨b24, hb24, hf⟩ := bd_E hf
          refine hv_getR (pn := 100) X d_Of_arrive_97 fa_Of_162 hb24 ?_
          refine hv_iload (pn := 102) X d_Of_arrive_100 ?_
          refine hv_dup2 (pn := 103) X d_Of_arrive_102 rfl rfl ?_
          obtain ⟨v25, hv25, hf⟩ := bd_E hf
          refine hv_iald (pn := 104) X d_Of_arrive_103 hv25 ?_
          refine hv_iconst (pn := 105) (v := 1) X d_Of_arrive_104 ?_
          refine hv_iadd (pn := 106) X d_Of_arrive_105 ?_
          obtain ⟨σ26, hσ26, hf⟩ := bd_E hf
          refine hv_iast (pn := 107) X d_Of_arrive_106 hσ26 ?_
          refine hv_iload (pn := 109) X d_Of_arrive_107 ?_
          cases hf
          exact hx_iret X d_Of_arrive_109 E
        · rw [if_neg hc] at hf
          refine hv_drop (i := 0) (lo' := [none, some (.int x1), some (.int x2), some (.int x3), some (.int x4), none, none]) ?_
          refine hv_drop (i := 1) (lo' := [none, none, some (.int x2), some (.int x3), some (.int x4), none, none]) ?_
          refine hv_drop (i := 2) (lo' := [none, none, none, some (.int x3), some (.int x4), none, none]) ?_
          refine hv_drop (i := 3) (lo' := [none, none, none, none, some (.int x4), none, none]) ?_
          refine hv_drop (i := 4) (lo' := [none, none, none, none, none, none, none]) ?_
          exact w_Of_arrive_j38 X HL N σ   _ hf E
    · rw [if_neg hc] at hf
      refine hv_drop (i := 0) (lo' := [none, some (.int x1), some (.int x2), some (.int x3), some (.int x4), none, none]) ?_
      refine hv_drop (i := 1) (lo' := [none, none, some (.int x2), some (.int x3), some (.int x4), none, none]) ?_
      refine hv_drop (i := 2) (lo' := [none, none, none, some (.int x3), some (.int x4), none, none]) ?_
      refine hv_drop (i := 3) (lo' := [none, none, none, none, some (.int x4), none, none]) ?_
      refine hv_drop (i := 4) (lo' := [none, none, none, none, none, none, none]) ?_
      exact w_Of_arrive_j17 X HL N σ   _ hf E
set_option maxHeartbeats 4000000 in
set_option maxRecDepth 100000 in
theorem w_Of_receiver_j18 {k : mk_T} (X : hv_X k b_Of_receiver y_Of_receiver.cls 4 6 160 (some (.int)) y_Of_receiver.name) (HL : hx_L k) (N : Nat) (σ : ho_H)   (r : ho_H × (Nat ⊕ Int32)) (hf : f_Of_receiver_j18 k.2.1 N σ  = some r) (E : hx_end k r.1 (ox_i r.2)) : hv_V k σ 18 [none, none, none, none] [] := by
  unfold f_Of_receiver_j18 at hf
  obtain ⟨σ3, hσ3, hf⟩ := bd_E hf
  cases hf
  exact hx_throw (i := 2) X HL d_Of_receiver_18 d_Of_receiver_21 d_Of_receiver_22 d_Of_receiver_25 rfl th_Of_84 hσ3 (by decide) (by decide) (Nat.le_of_ble_eq_true rfl) E
set_option maxHeartbeats 4000000 in
set_option maxRecDepth 100000 in
theorem c_Of_receiver (l : Launch) (hlt : l.stackTraces = false) (G : ho_G) (N : Nat) (σ : ho_H) (a0 : Nat) (x1 : Int32) (x2 : Int32) (σ' : ho_H) (o : Nat ⊕ Int32) (hf : f_Of_receiver G N σ a0 x1 x2 = some (σ', o)) : hx_C l G y_Of_receiver (Cond.code y_Of_receiver b_Of_receiver 4 (some (.int)) :: hv_ws) 6 160 [.ref a0, .int x1, .int x2] σ σ' (ox_i o) := by
  refine hx_met [some (.ref a0), some (.int x1), some (.int x2), none] hlt (by decide +kernel) (by intro v hv; simp at hv; rcases hv with rfl | rfl | rfl <;> rfl) (Nat.le_of_ble_eq_true rfl) rfl ?_
  intro k X HL hkl hkG E
  subst hkl
  subst hkG
  unfold f_Of_receiver at hf
  refine hv_aload_n (pn := 1) X d_Of_receiver_0 ?_
  refine hv_iload_n (pn := 2) X d_Of_receiver_1 ?_
  obtain ⟨_, hr1, hf⟩ := bd_E hf
  obtain ⟨v2, hv2, hf⟩ := bd_E hf
  refine hv_callV (pn := 5) X d_Of_receiver_2 (c_Of_isReceiver _ _ N σ a0 x1 _ hv2) cs_Of_139 q_3_103 rfl qs_Of_isReceiver hr1 (by decide) (by decide) ⟨Nat.le_refl _, Nat.le_refl _⟩ (Nat.le_of_ble_eq_true rfl) ?_
  refine hv_if_eq (pn := 8) (tgt := 18) X d_Of_receiver_5 (by decide) (fun hc => ?_) (fun hc => ?_)
  · rw [if_pos hc] at hf
    refine hv_drop (i := 0) (lo' := [none, some (.int x1), some (.int x2), none]) ?_
    refine hv_drop (i := 1) (lo' := [none, none, some (.int x2), none]) ?_
    refine hv_drop (i := 2) (lo' := [none, none, none, none]) ?_
    exact w_Of_receiver_j18 X HL N σ   _ hf E
  · rw [if_neg hc] at hf
    refine hv_iload_n (pn := 9) X d_Of_receiver_8 ?_
    refine hv_if_lt (pn := 12) (tgt := 18) X d_Of_receiver_9 (by decide) (fun hc => ?_) (fun hc => ?_)
    · rw [if_pos hc] at hf
      refine hv_drop (i := 0) (lo' := [none, some (.int x1), some (.int x2), none]) ?_
      refine hv_drop (i := 1) (lo' := [none, none, some (.int x2), none]) ?_
      refine hv_drop (i := 2) (lo' := [none, none, none, none]) ?_
      exact w_Of_receiver_j18 X HL N σ   _ hf E
    · rw [if_neg hc] at hf
      refine hv_iload_n (pn := 13) X d_Of_receiver_12 ?_
      refine hv_bipush (pn := 15) (v := 9) X d_Of_receiver_13 ?_
      refine hv_icmp_le (pn := 18) (tgt := 26) X d_Of_receiver_15 (by decide) (fun hc => ?_) (fun hc => ?_)
      · rw [if_pos hc] at hf
        refine hv_aload_n (pn := 27) X d_Of_receiver_26 ?_
        obtain ⟨b4, hb4, hf⟩ := bd_E hf
        refine hv_getR (pn := 30) X d_Of_receiver_27 fa_Of_51 hb4 ?_
        refine hv_iload_n (pn := 31) X d_Of_receiver_30 ?_
        obtain ⟨b5, hb5, hf⟩ := bd_E hf
        refine hv_aald (pn := 32) X d_Of_receiver_31 rfl hb5 ?_
        refine hv_astore_n (pn := 33) (i := 3) (lo' := [some (.ref a0), some (.int x1), some (.int x2), some (.ref b5)]) X d_Of_receiver_32 ?_
        refine hv_iload_n (pn := 34) X d_Of_receiver_33 ?_
        by_cases hs6_0 : x2 = 7
        · rw [if_pos hs6_0] at hf
          refine hv_tsw_in (n := 7) (off := 26) (tgt := 60) X d_Of_receiver_34 (by rw [hs6_0]; decide) (by decide) (by decide) (by decide) (by decide) ?_
          refine hv_aload_n (pn := 61) X d_Of_receiver_60 ?_
          obtain ⟨v7, hv7, hf⟩ := bd_E hf
          refine hv_getI (pn := 64) X d_Of_receiver_61 fa_Of_165 hv7 ?_
          cases hf
          exact hx_iret X d_Of_receiver_64 E
        · rw [if_neg hs6_0] at hf
          by_cases hs6_1 : x2 = 8
          · rw [if_pos hs6_1] at hf
            refine hv_tsw_in (n := 8) (off := 31) (tgt := 65) X d_Of_receiver_34 (by rw [hs6_1]; decide) (by decide) (by decide) (by decide) (by decide) ?_
            refine hv_aload_n (pn := 66) X d_Of_receiver_65 ?_
            obtain ⟨b8, hb8, hf⟩ := bd_E hf
            refine hv_getR (pn := 69) X d_Of_receiver_66 fa_Of_168 hb8 ?_
            obtain ⟨_, hr9, hf⟩ := bd_E hf
            obtain ⟨v10, hv10, hf⟩ := bd_E hf
            refine hv_callV (pn := 72) X d_Of_receiver_69 (c_Al_size _ _ N σ b8 _ hv10) cs_Of_107 q_1_202 rfl q_1_203 hr9 (by decide) (by decide) ⟨Nat.le_refl _, Nat.le_refl _⟩ (Nat.le_of_ble_eq_true rfl) ?_
            cases hf
            exact hx_iret X d_Of_receiver_72 E
          · rw [if_neg hs6_1] at hf
            by_cases hs6_2 : x2 = 9
            · rw [if_pos hs6_2] at hf
              refine hv_tsw_in (n := 9) (off := 39) (tgt := 73) X d_Of_receiver_34 (by rw [hs6_2]; decide) (by decide) (by decide) (by decide) (by decide) ?_
              refine hv_aload_n (pn := 74) X d_Of_receiver_73 ?_
              obtain ⟨_, hr11, hf⟩ := bd_E hf
              obtain ⟨v12, hv12, hf⟩ := bd_E hf
              refine hv_callV (pn := 77) X d_Of_receiver_74 (c_Rc_latestInterval _ _ N σ b5 _ hv12) cs_Of_171 q_4_5 rfl q_4_6 hr11 (by decide) (by decide) ⟨Nat.le_refl _, Nat.le_refl _⟩ (Nat.le_of_ble_eq_true rfl) ?_
              cases hf
              exact hx_iret X d_Of_receiver_77 E
            · rw [if_neg hs6_2] at hf
              refine hv_tsw_out (tgt := 78) X d_Of_receiver_34 (sw_out2 (a := 7) (n := 3) (by decide) (fun j hj => by match j, hj with | 0, _ => exact hs6_0 | 1, _ => exact hs6_1 | 2, _ => exact hs6_2 | q + 3, h => exact absurd h (by omega))) (by decide) ?_
              refine hv_aload_n (pn := 79) X d_Of_receiver_78 ?_
              obtain ⟨b13, hb13, hf⟩ := bd_E hf
              refine hv_getR (pn := 82) X d_Of_receiver_79 fa_Of_162 hb13 ?_
              refine hv_iload_n (pn := 83) X d_Of_receiver_82 ?_
              obtain ⟨v14, hv14, hf⟩ := bd_E hf
              refine hv_iald (pn := 84) X d_Of_receiver_83 hv14 ?_
              cases hf
              exact hx_iret X d_Of_receiver_84 E
      · rw [if_neg hc] at hf
        refine hv_drop (i := 0) (lo' := [none, some (.int x1), some (.int x2), none]) ?_
        refine hv_drop (i := 1) (lo' := [none, none, some (.int x2), none]) ?_
        refine hv_drop (i := 2) (lo' := [none, none, none, none]) ?_
        exact w_Of_receiver_j18 X HL N σ   _ hf E
set_option maxHeartbeats 4000000 in
set_option maxRecDepth 100000 in
theorem w_Of_released_j18 {k : mk_T} (X : hv_X k b_Of_released y_Of_released.cls 5 6 160 (some (.int)) y_Of_released.name) (HL : hx_L k) (N : Nat) (σ : ho_H)   (r : ho_H × (Nat ⊕ Int32)) (hf : f_Of_released_j18 k.2.1 N σ  = some r) (E : hx_end k r.1 (ox_i r.2)) : hv_V k σ 18 [none, none, none, none, none] [] := by
  unfold f_Of_released_j18 at hf
  obtain ⟨σ3, hσ3, hf⟩ := bd_E hf
  cases hf
  exact hx_throw (i := 2) X HL d_Of_released_18 d_Of_released_21 d_Of_released_22 d_Of_released_25 rfl th_Of_84 hσ3 (by decide) (by decide) (Nat.le_of_ble_eq_true rfl) E
set_option maxHeartbeats 4000000 in
set_option maxRecDepth 100000 in
theorem c_Of_released (l : Launch) (hlt : l.stackTraces = false) (G : ho_G) (N : Nat) (σ : ho_H) (a0 : Nat) (x1 : Int32) (x2 : Int32) (x3 : Int32) (σ' : ho_H) (o : Nat ⊕ Int32) (hf : f_Of_released G N σ a0 x1 x2 x3 = some (σ', o)) : hx_C l G y_Of_released (Cond.code y_Of_released b_Of_released 5 (some (.int)) :: hv_ws) 6 160 [.ref a0, .int x1, .int x2, .int x3] σ σ' (ox_i o) := by
  refine hx_met [some (.ref a0), some (.int x1), some (.int x2), some (.int x3), none] hlt (by decide +kernel) (by intro v hv; simp at hv; rcases hv with rfl | rfl | rfl | rfl <;> rfl) (Nat.le_of_ble_eq_true rfl) rfl ?_
  intro k X HL hkl hkG E
  subst hkl
  subst hkG
  unfold f_Of_released at hf
  refine hv_aload_n (pn := 1) X d_Of_released_0 ?_
  refine hv_iload_n (pn := 2) X d_Of_released_1 ?_
  refine hv_iload_n (pn := 3) X d_Of_released_2 ?_
  obtain ⟨_, hr1, hf⟩ := bd_E hf
  obtain ⟨v2, hv2, hf⟩ := bd_E hf
  refine hv_callV (pn := 6) X d_Of_released_3 (c_Of_isKept _ _ N σ a0 x1 x2 _ hv2) cs_Of_174 q_4_17 rfl qs_Of_isKept hr1 (by decide) (by decide) ⟨Nat.le_refl _, Nat.le_refl _⟩ (Nat.le_of_ble_eq_true rfl) ?_
  refine hv_if_eq (pn := 9) (tgt := 18) X d_Of_released_6 (by decide) (fun hc => ?_) (fun hc => ?_)
  · rw [if_pos hc] at hf
    refine hv_drop (i := 0) (lo' := [none, some (.int x1), some (.int x2), some (.int x3), none]) ?_
    refine hv_drop (i := 1) (lo' := [none, none, some (.int x2), some (.int x3), none]) ?_
    refine hv_drop (i := 2) (lo' := [none, none, none, some (.int x3), none]) ?_
    refine hv_drop (i := 3) (lo' := [none, none, none, none, none]) ?_
    exact w_Of_released_j18 X HL N σ   _ hf E
  · rw [if_neg hc] at hf
    refine hv_iload_n (pn := 10) X d_Of_released_9 ?_
    refine hv_if_lt (pn := 13) (tgt := 18) X d_Of_released_10 (by decide) (fun hc => ?_) (fun hc => ?_)
    · rw [if_pos hc] at hf
      refine hv_drop (i := 0) (lo' := [none, some (.int x1), some (.int x2), some (.int x3), none]) ?_
      refine hv_drop (i := 1) (lo' := [none, none, some (.int x2), some (.int x3), none]) ?_
      refine hv_drop (i := 2) (lo' := [none, none, none, some (.int x3), none]) ?_
      refine hv_drop (i := 3) (lo' := [none, none, none, none, none]) ?_
      exact w_Of_released_j18 X HL N σ   _ hf E
    · rw [if_neg hc] at hf
      refine hv_iload_n (pn := 14) X d_Of_released_13 ?_
      refine hv_iconst (pn := 15) (v := 2) X d_Of_released_14 ?_
      refine hv_icmp_le (pn := 18) (tgt := 26) X d_Of_released_15 (by decide) (fun hc => ?_) (fun hc => ?_)
      · rw [if_pos hc] at hf
        refine hv_aload_n (pn := 27) X d_Of_released_26 ?_
        obtain ⟨b4, hb4, hf⟩ := bd_E hf
        refine hv_getR (pn := 30) X d_Of_released_27 fa_Of_51 hb4 ?_
        refine hv_iload_n (pn := 31) X d_Of_released_30 ?_
        obtain ⟨b5, hb5, hf⟩ := bd_E hf
        refine hv_aald (pn := 32) X d_Of_released_31 rfl hb5 ?_
        obtain ⟨b6, hb6, hf⟩ := bd_E hf
        refine hv_getR (pn := 35) X d_Of_released_32 fa_Of_177 hb6 ?_
        refine hv_iload_n (pn := 36) X d_Of_released_35 ?_
        obtain ⟨_, hr7, hf⟩ := bd_E hf
        obtain ⟨b8, hb8, hf⟩ := bd_E hf
        refine hv_callV (pn := 39) X d_Of_released_36 (c_Al_get _ _ N σ b6 x2 _ hb8) cs_Of_132 q_3_73 rfl q_3_74 hr7 (by decide) (by decide) ⟨Nat.le_refl _, Nat.le_refl _⟩ (Nat.le_of_ble_eq_true rfl) ?_
        obtain ⟨_, hr9, hf⟩ := bd_E hf
        refine hv_cast_o (pn := 42) X d_Of_released_39 q_2_177 rfl (List.mem_of_getElem? (i := 5) rfl) hr9 ?_
        refine hv_astore (pn := 44) (i := 4) (lo' := [some (.ref a0), some (.int x1), some (.int x2), some (.int x3), some (.ref b8)]) X d_Of_released_42 ?_
        refine hv_iload_n (pn := 45) X d_Of_released_44 ?_
        by_cases hs10_0 : x3 = 0
        · rw [if_pos hs10_0] at hf
          refine hv_lsw (off := 27) (tgt := 72) X d_Of_released_45 (by decide) (by rw [hs10_0]; decide) (by decide) ?_
          refine hv_aload (pn := 74) X d_Of_released_72 ?_
          obtain ⟨_, hr11, hf⟩ := bd_E hf
          obtain ⟨v12, hv12, hf⟩ := bd_E hf
          refine hv_callV (pn := 77) X d_Of_released_74 (c_Pk_interval _ _ N σ b8 _ hv12) cs_Of_180 q_2_195 rfl q_2_196 hr11 (by decide) (by decide) ⟨Nat.le_refl _, Nat.le_refl _⟩ (Nat.le_of_ble_eq_true rfl) ?_
          cases hf
          exact hx_iret X d_Of_released_77 E
        · rw [if_neg hs10_0] at hf
          by_cases hs10_1 : x3 = 1
          · rw [if_pos hs10_1] at hf
            refine hv_lsw (off := 33) (tgt := 78) X d_Of_released_45 (by decide) (by rw [hs10_1]; decide) (by decide) ?_
            refine hv_aload (pn := 80) X d_Of_released_78 ?_
            obtain ⟨_, hr13, hf⟩ := bd_E hf
            obtain ⟨v14, hv14, hf⟩ := bd_E hf
            refine hv_callV (pn := 83) X d_Of_released_80 (c_Pk_kind _ _ N σ b8 _ hv14) cs_Of_183 q_3_156 rfl q_3_157 hr13 (by decide) (by decide) ⟨Nat.le_refl _, Nat.le_refl _⟩ (Nat.le_of_ble_eq_true rfl) ?_
            cases hf
            exact hx_iret X d_Of_released_83 E
          · rw [if_neg hs10_1] at hf
            refine hv_lsw (off := 39) (tgt := 84) X d_Of_released_45 (by decide) ((lv_osw hs10_0 (by decide)).trans ((lv_osw hs10_1 (by decide)).trans rfl)) (by decide) ?_
            refine hv_aload (pn := 86) X d_Of_released_84 ?_
            obtain ⟨_, hr15, hf⟩ := bd_E hf
            obtain ⟨v16, hv16, hf⟩ := bd_E hf
            refine hv_callV (pn := 89) X d_Of_released_86 (c_Pk_size _ _ N σ b8 _ hv16) cs_Of_186 q_2_215 rfl q_2_216 hr15 (by decide) (by decide) ⟨Nat.le_refl _, Nat.le_refl _⟩ (Nat.le_of_ble_eq_true rfl) ?_
            cases hf
            exact hx_iret X d_Of_released_89 E
      · rw [if_neg hc] at hf
        refine hv_drop (i := 0) (lo' := [none, some (.int x1), some (.int x2), some (.int x3), none]) ?_
        refine hv_drop (i := 1) (lo' := [none, none, some (.int x2), some (.int x3), none]) ?_
        refine hv_drop (i := 2) (lo' := [none, none, none, some (.int x3), none]) ?_
        refine hv_drop (i := 3) (lo' := [none, none, none, none, none]) ?_
        exact w_Of_released_j18 X HL N σ   _ hf E
set_option maxHeartbeats 4000000 in
set_option maxRecDepth 100000 in
theorem w_Of_releasedByte_j36 {k : mk_T} (X : hv_X k b_Of_releasedByte y_Of_releasedByte.cls 4 6 160 (some (.int)) y_Of_releasedByte.name) (HL : hx_L k) (N : Nat) (σ : ho_H)   (r : ho_H × (Nat ⊕ Int32)) (hf : f_Of_releasedByte_j36 k.2.1 N σ  = some r) (E : hx_end k r.1 (ox_i r.2)) : hv_V k σ 36 [none, none, none, none] [] := by
  unfold f_Of_releasedByte_j36 at hf
  obtain ⟨σ3, hσ3, hf⟩ := bd_E hf
  cases hf
  exact hx_throw (i := 2) X HL d_Of_releasedByte_36 d_Of_releasedByte_39 d_Of_releasedByte_40 d_Of_releasedByte_43 rfl th_Of_84 hσ3 (by decide) (by decide) (Nat.le_of_ble_eq_true rfl) E
set_option maxHeartbeats 4000000 in
set_option maxRecDepth 100000 in
theorem c_Of_releasedByte (l : Launch) (hlt : l.stackTraces = false) (G : ho_G) (N : Nat) (σ : ho_H) (a0 : Nat) (x1 : Int32) (x2 : Int32) (x3 : Int32) (σ' : ho_H) (o : Nat ⊕ Int32) (hf : f_Of_releasedByte G N σ a0 x1 x2 x3 = some (σ', o)) : hx_C l G y_Of_releasedByte (Cond.code y_Of_releasedByte b_Of_releasedByte 4 (some (.int)) :: hv_ws) 6 160 [.ref a0, .int x1, .int x2, .int x3] σ σ' (ox_i o) := by
  refine hx_met [some (.ref a0), some (.int x1), some (.int x2), some (.int x3)] hlt (by decide +kernel) (by intro v hv; simp at hv; rcases hv with rfl | rfl | rfl | rfl <;> rfl) (Nat.le_of_ble_eq_true rfl) rfl ?_
  intro k X HL hkl hkG E
  subst hkl
  subst hkG
  unfold f_Of_releasedByte at hf
  refine hv_aload_n (pn := 1) X d_Of_releasedByte_0 ?_
  refine hv_iload_n (pn := 2) X d_Of_releasedByte_1 ?_
  refine hv_iload_n (pn := 3) X d_Of_releasedByte_2 ?_
  obtain ⟨_, hr1, hf⟩ := bd_E hf
  obtain ⟨v2, hv2, hf⟩ := bd_E hf
  refine hv_callV (pn := 6) X d_Of_releasedByte_3 (c_Of_isKept _ _ N σ a0 x1 x2 _ hv2) cs_Of_174 q_4_17 rfl qs_Of_isKept hr1 (by decide) (by decide) ⟨Nat.le_refl _, Nat.le_refl _⟩ (Nat.le_of_ble_eq_true rfl) ?_
  refine hv_if_eq (pn := 9) (tgt := 36) X d_Of_releasedByte_6 (by decide) (fun hc => ?_) (fun hc => ?_)
  · rw [if_pos hc] at hf
    refine hv_drop (i := 0) (lo' := [none, some (.int x1), some (.int x2), some (.int x3)]) ?_
    refine hv_drop (i := 1) (lo' := [none, none, some (.int x2), some (.int x3)]) ?_
    refine hv_drop (i := 2) (lo' := [none, none, none, some (.int x3)]) ?_
    refine hv_drop (i := 3) (lo' := [none, none, none, none]) ?_
    exact w_Of_releasedByte_j36 X HL N σ   _ hf E
  · rw [if_neg hc] at hf
    refine hv_iload_n (pn := 10) X d_Of_releasedByte_9 ?_
    refine hv_if_lt (pn := 13) (tgt := 36) X d_Of_releasedByte_10 (by decide) (fun hc => ?_) (fun hc => ?_)
    · rw [if_pos hc] at hf
      refine hv_drop (i := 0) (lo' := [none, some (.int x1), some (.int x2), some (.int x3)]) ?_
      refine hv_drop (i := 1) (lo' := [none, none, some (.int x2), some (.int x3)]) ?_
      refine hv_drop (i := 2) (lo' := [none, none, none, some (.int x3)]) ?_
      refine hv_drop (i := 3) (lo' := [none, none, none, none]) ?_
      exact w_Of_releasedByte_j36 X HL N σ   _ hf E
    · rw [if_neg hc] at hf
      refine hv_iload_n (pn := 14) X d_Of_releasedByte_13 ?_
      refine hv_aload_n (pn := 15) X d_Of_releasedByte_14 ?_
      obtain ⟨b4, hb4, hf⟩ := bd_E hf
      refine hv_getR (pn := 18) X d_Of_releasedByte_15 fa_Of_51 hb4 ?_
      refine hv_iload_n (pn := 19) X d_Of_releasedByte_18 ?_
      obtain ⟨b5, hb5, hf⟩ := bd_E hf
      refine hv_aald (pn := 20) X d_Of_releasedByte_19 rfl hb5 ?_
      obtain ⟨b6, hb6, hf⟩ := bd_E hf
      refine hv_getR (pn := 23) X d_Of_releasedByte_20 fa_Of_177 hb6 ?_
      refine hv_iload_n (pn := 24) X d_Of_releasedByte_23 ?_
      obtain ⟨_, hr7, hf⟩ := bd_E hf
      obtain ⟨b8, hb8, hf⟩ := bd_E hf
      refine hv_callV (pn := 27) X d_Of_releasedByte_24 (c_Al_get _ _ N σ b6 x2 _ hb8) cs_Of_132 q_3_73 rfl q_3_74 hr7 (by decide) (by decide) ⟨Nat.le_refl _, Nat.le_refl _⟩ (Nat.le_of_ble_eq_true rfl) ?_
      obtain ⟨_, hr9, hf⟩ := bd_E hf
      refine hv_cast_o (pn := 30) X d_Of_releasedByte_27 q_2_177 rfl (List.mem_of_getElem? (i := 5) rfl) hr9 ?_
      obtain ⟨_, hr10, hf⟩ := bd_E hf
      obtain ⟨v11, hv11, hf⟩ := bd_E hf
      refine hv_callV (pn := 33) X d_Of_releasedByte_30 (c_Pk_size _ _ N σ b8 _ hv11) cs_Of_186 q_2_215 rfl q_2_216 hr10 (by decide) (by decide) ⟨Nat.le_refl _, Nat.le_refl _⟩ (Nat.le_of_ble_eq_true rfl) ?_
      refine hv_icmp_lt (pn := 36) (tgt := 44) X d_Of_releasedByte_33 (by decide) (fun hc => ?_) (fun hc => ?_)
      · rw [if_pos hc] at hf
        refine hv_aload_n (pn := 45) X d_Of_releasedByte_44 ?_
        obtain ⟨b12, hb12, hf⟩ := bd_E hf
        refine hv_getR (pn := 48) X d_Of_releasedByte_45 fa_Of_51 hb12 ?_
        refine hv_iload_n (pn := 49) X d_Of_releasedByte_48 ?_
        obtain ⟨b13, hb13, hf⟩ := bd_E hf
        refine hv_aald (pn := 50) X d_Of_releasedByte_49 rfl hb13 ?_
        obtain ⟨b14, hb14, hf⟩ := bd_E hf
        refine hv_getR (pn := 53) X d_Of_releasedByte_50 fa_Of_177 hb14 ?_
        refine hv_iload_n (pn := 54) X d_Of_releasedByte_53 ?_
        obtain ⟨_, hr15, hf⟩ := bd_E hf
        obtain ⟨b16, hb16, hf⟩ := bd_E hf
        refine hv_callV (pn := 57) X d_Of_releasedByte_54 (c_Al_get _ _ N σ b14 x2 _ hb16) cs_Of_132 q_3_73 rfl q_3_74 hr15 (by decide) (by decide) ⟨Nat.le_refl _, Nat.le_refl _⟩ (Nat.le_of_ble_eq_true rfl) ?_
        obtain ⟨_, hr17, hf⟩ := bd_E hf
        refine hv_cast_o (pn := 60) X d_Of_releasedByte_57 q_2_177 rfl (List.mem_of_getElem? (i := 5) rfl) hr17 ?_
        obtain ⟨b18, hb18, hf⟩ := bd_E hf
        refine hv_getR (pn := 63) X d_Of_releasedByte_60 fa_Of_117 hb18 ?_
        refine hv_bipush (pn := 65) (v := 6) X d_Of_releasedByte_63 ?_
        refine hv_iload_n (pn := 66) X d_Of_releasedByte_65 ?_
        refine hv_iadd (pn := 67) X d_Of_releasedByte_66 ?_
        obtain ⟨v19, hv19, hf⟩ := bd_E hf
        refine hv_iald (pn := 68) X d_Of_releasedByte_67 hv19 ?_
        cases hf
        exact hx_iret X d_Of_releasedByte_68 E
      · rw [if_neg hc] at hf
        refine hv_drop (i := 0) (lo' := [none, some (.int x1), some (.int x2), some (.int x3)]) ?_
        refine hv_drop (i := 1) (lo' := [none, none, some (.int x2), some (.int x3)]) ?_
        refine hv_drop (i := 2) (lo' := [none, none, none, some (.int x3)]) ?_
        refine hv_drop (i := 3) (lo' := [none, none, none, none]) ?_
        exact w_Of_releasedByte_j36 X HL N σ   _ hf E
