set_option maxHeartbeats 4000000 in
set_option maxRecDepth 100000 in
theorem c_Lw_chain (l : Launch) (hlt : l.stackTraces = false) (G : ho_G) (N : Nat) (σ : ho_H) (a0 : Nat) (x1 : Int32) (x2 : Int32) (x3 : Int32) (x4 : Int32) (x5 : Int32) (a6 : Nat) (σ' : ho_H) (r : Int32) (hf : f_Lw_chain G N σ a0 x1 x2 x3 x4 x5 a6 = some (σ', r)) : hv_C l G y_Lw_chain (Cond.codeWith y_Lw_chain b_Lw_chain 8 (some (.int)) [(0, 16, 19, 13)] :: hv_ws) 7 186 [.ref a0, .int x1, .int x2, .int x3, .int x4, .int x5, .ref a6] σ σ' (some (.int r)) := by
  refine hw_met [some (.ref a0), some (.int x1), some (.int x2), some (.int x3), some (.int x4), some (.int x5), some (.ref a6), none] (by decide +kernel) (by intro v hv; simp at hv; rcases hv with rfl | rfl | rfl | rfl | rfl | rfl | rfl <;> rfl) (Nat.le_of_ble_eq_true rfl) rfl ?_
  intro k X HT hkl hkG E
  subst hkl
  subst hkG
  unfold f_Lw_chain at hf
  refine hv_aload (pn := 2) X d_Lw_chain_0 ?_
  refine hv_iconst (pn := 3) (v := 0) X d_Lw_chain_2 ?_
  refine hv_aload_n (pn := 4) X d_Lw_chain_3 ?_
  refine hv_iload_n (pn := 5) X d_Lw_chain_4 ?_
  refine hv_iload_n (pn := 6) X d_Lw_chain_5 ?_
  refine hv_iload_n (pn := 7) X d_Lw_chain_6 ?_
  refine hv_iload (pn := 9) X d_Lw_chain_7 ?_
  refine hv_iload (pn := 11) X d_Lw_chain_9 ?_
  obtain ⟨_, hr1, hf⟩ := bd_E hf
  obtain ⟨σ2, o3, hσ2, hf⟩ := bd2_E hf
  obtain ⟨hσ2, mσ2⟩ := ho_ck_E hσ2
  refine hw_call (pn := 14) X HT d_Lw_chain_11 (c_Of_chain _ hlt _ N σ a0 x1 x2 x3 x4 x5 _ _ hσ2) cs_Lw_7 q_1_213 rfl q_1_214 q_1_212 hr1 (by decide) (by decide) mσ2 (Nat.le_of_ble_eq_true rfl) (fun r9 hr9 => ?_) (fun i9 hi9 => ?_)
  · rcases o3 with i4 | v5
    · have hr9 : (Sum.inl i4 : Nat ⊕ Option Value) = .inr r9 := hr9
      cases hr9
    · have hr9 : (Sum.inr (some (.int v5)) : Nat ⊕ Option Value) = .inr r9 := hr9
      cases hr9
      dsimp only [sm_e] at hf
      refine hv_i2l (pn := 15) X d_Lw_chain_14 ?_
      obtain ⟨σ6, hσ6, hf⟩ := bd_E hf
      refine hv_last (pn := 16) X d_Lw_chain_15 hσ6 ?_
      refine hv_goto (tgt := 23) X d_Lw_chain_16 (by decide) ?_
      refine hv_iconst (pn := 24) (v := 0) X d_Lw_chain_23 ?_
      cases hf
      exact hv_iret X d_Lw_chain_24 E
  · rcases o3 with i4 | v5
    · have hi9 : (Sum.inl i4 : Nat ⊕ Option Value) = .inl i9 := hi9
      have hi9 := Sum.inl.inj hi9
      subst hi9
      dsimp only [sm_e] at hf
      by_cases hi7 : i4 = 0
      · subst hi7
        rw [if_pos rfl] at hf
        refine ⟨19, hh_Lw_chain_0, fun z => ?_⟩
        refine hv_astore (pn := 21) (i := 7) (lo' := [some (.ref a0), some (.int x1), some (.int x2), some (.int x3), some (.int x4), some (.int x5), some (.ref a6), some (.ref z)]) X d_Lw_chain_19 ?_
        refine hv_iconst (pn := 22) (v := 1) X d_Lw_chain_21 ?_
        cases hf
        exact hv_iret X d_Lw_chain_22 E
      · rw [if_neg hi7] at hf
        cases hf
    · have hi9 : (Sum.inr (some (.int v5)) : Nat ⊕ Option Value) = .inl i9 := hi9
      cases hi9
set_option maxHeartbeats 4000000 in
set_option maxRecDepth 100000 in
theorem c_Lw_tick (l : Launch) (hlt : l.stackTraces = false) (G : ho_G) (N : Nat) (σ : ho_H) (a0 : Nat) (x1 : Int32) (a2 : Nat) (σ' : ho_H) (r : Int32) (hf : f_Lw_tick G N σ a0 x1 a2 = some (σ', r)) : hv_C l G y_Lw_tick (Cond.codeWith y_Lw_tick b_Lw_tick 4 (some (.int)) [(0, 9, 12, 19), (0, 9, 15, 13)] :: hv_ws) 7 181 [.ref a0, .int x1, .ref a2] σ σ' (some (.int r)) := by
  refine hw_met [some (.ref a0), some (.int x1), some (.ref a2), none] (by decide +kernel) (by intro v hv; simp at hv; rcases hv with rfl | rfl | rfl <;> rfl) (Nat.le_of_ble_eq_true rfl) rfl ?_
  intro k X HT hkl hkG E
  subst hkl
  subst hkG
  unfold f_Lw_tick at hf
  refine hv_aload_n (pn := 1) X d_Lw_tick_0 ?_
  refine hv_iconst (pn := 2) (v := 0) X d_Lw_tick_1 ?_
  refine hv_aload_n (pn := 3) X d_Lw_tick_2 ?_
  refine hv_iload_n (pn := 4) X d_Lw_tick_3 ?_
  obtain ⟨_, hr1, hf⟩ := bd_E hf
  obtain ⟨σ2, o3, hσ2, hf⟩ := bd2_E hf
  obtain ⟨hσ2, mσ2⟩ := ho_ck_E hσ2
  refine hw_call (pn := 7) X HT d_Lw_tick_4 (c_Of_tick _ hlt _ N σ a0 x1 _ _ hσ2) cs_Lw_15 q_2_96 rfl q_2_97 q_2_95 hr1 (by decide) (by decide) mσ2 (Nat.le_of_ble_eq_true rfl) (fun r9 hr9 => ?_) (fun i9 hi9 => ?_)
  · rcases o3 with i4 | v5
    · have hr9 : (Sum.inl i4 : Nat ⊕ Option Value) = .inr r9 := hr9
      cases hr9
    · have hr9 : (Sum.inr (some (.int v5)) : Nat ⊕ Option Value) = .inr r9 := hr9
      cases hr9
      dsimp only [sm_e] at hf
      refine hv_i2l (pn := 8) X d_Lw_tick_7 ?_
      obtain ⟨σ6, hσ6, hf⟩ := bd_E hf
      refine hv_last (pn := 9) X d_Lw_tick_8 hσ6 ?_
      refine hv_goto (tgt := 18) X d_Lw_tick_9 (by decide) ?_
      refine hv_iconst (pn := 19) (v := 0) X d_Lw_tick_18 ?_
      cases hf
      exact hv_iret X d_Lw_tick_19 E
  · rcases o3 with i4 | v5
    · have hi9 : (Sum.inl i4 : Nat ⊕ Option Value) = .inl i9 := hi9
      have hi9 := Sum.inl.inj hi9
      subst hi9
      dsimp only [sm_e] at hf
      by_cases hi7 : i4 = 1
      · subst hi7
        rw [if_pos rfl] at hf
        refine ⟨12, hh_Lw_tick_1, fun z => ?_⟩
        refine hv_astore_n (pn := 13) (i := 3) (lo' := [some (.ref a0), some (.int x1), some (.ref a2), some (.ref z)]) X d_Lw_tick_12 ?_
        refine hv_iconst (pn := 14) (v := 1) X d_Lw_tick_13 ?_
        cases hf
        exact hv_iret X d_Lw_tick_14 E
      · rw [if_neg hi7] at hf
        by_cases hi8 : i4 = 0
        · subst hi8
          rw [if_pos rfl] at hf
          refine ⟨15, hh_Lw_tick_0, fun z => ?_⟩
          refine hv_astore_n (pn := 16) (i := 3) (lo' := [some (.ref a0), some (.int x1), some (.ref a2), some (.ref z)]) X d_Lw_tick_15 ?_
          refine hv_iconst (pn := 17) (v := 2) X d_Lw_tick_16 ?_
          cases hf
          exact hv_iret X d_Lw_tick_17 E
        · rw [if_neg hi8] at hf
          cases hf
    · have hi9 : (Sum.inr (some (.int v5)) : Nat ⊕ Option Value) = .inl i9 := hi9
      cases hi9
set_option maxHeartbeats 4000000 in
set_option maxRecDepth 100000 in
theorem c_Lw_load (l : Launch) (hlt : l.stackTraces = false) (G : ho_G) (N : Nat) (σ : ho_H) (a0 : Nat) (x1 : Int32) (x2 : Int32) (a3 : Nat) (σ' : ho_H) (r : Int32) (hf : f_Lw_load G N σ a0 x1 x2 a3 = some (σ', r)) : hv_C l G y_Lw_load (Cond.codeWith y_Lw_load b_Lw_load 5 (some (.int)) [(0, 10, 13, 25)] :: hv_ws) 7 183 [.ref a0, .int x1, .int x2, .ref a3] σ σ' (some (.int r)) := by
  refine hw_met [some (.ref a0), some (.int x1), some (.int x2), some (.ref a3), none] (by decide +kernel) (by intro v hv; simp at hv; rcases hv with rfl | rfl | rfl | rfl <;> rfl) (Nat.le_of_ble_eq_true rfl) rfl ?_
  intro k X HT hkl hkG E
  subst hkl
  subst hkG
  unfold f_Lw_load at hf
  refine hv_aload_n (pn := 1) X d_Lw_load_0 ?_
  refine hv_iconst (pn := 2) (v := 0) X d_Lw_load_1 ?_
  refine hv_aload_n (pn := 3) X d_Lw_load_2 ?_
  refine hv_iload_n (pn := 4) X d_Lw_load_3 ?_
  refine hv_iload_n (pn := 5) X d_Lw_load_4 ?_
  obtain ⟨_, hr1, hf⟩ := bd_E hf
  obtain ⟨σ2, o3, hσ2, hf⟩ := bd2_E hf
  obtain ⟨hσ2, mσ2⟩ := ho_ck_E hσ2
  refine hw_call (pn := 8) X HT d_Lw_load_5 (c_Of_load _ hlt _ N σ a0 x1 x2 _ _ hσ2) cs_Lw_21 q_2_120 rfl q_2_121 q_2_119 hr1 (by decide) (by decide) mσ2 (Nat.le_of_ble_eq_true rfl) (fun r9 hr9 => ?_) (fun i9 hi9 => ?_)
  · rcases o3 with i4 | v5
    · have hr9 : (Sum.inl i4 : Nat ⊕ Option Value) = .inr r9 := hr9
      cases hr9
    · have hr9 : (Sum.inr (some (.int v5)) : Nat ⊕ Option Value) = .inr r9 := hr9
      cases hr9
      dsimp only [sm_e] at hf
      refine hv_i2l (pn := 9) X d_Lw_load_8 ?_
      obtain ⟨σ6, hσ6, hf⟩ := bd_E hf
      refine hv_last (pn := 10) X d_Lw_load_9 hσ6 ?_
      refine hv_goto (tgt := 17) X d_Lw_load_10 (by decide) ?_
      refine hv_iconst (pn := 18) (v := 0) X d_Lw_load_17 ?_
      cases hf
      exact hv_iret X d_Lw_load_18 E
  · rcases o3 with i4 | v5
    · have hi9 : (Sum.inl i4 : Nat ⊕ Option Value) = .inl i9 := hi9
      have hi9 := Sum.inl.inj hi9
      subst hi9
      dsimp only [sm_e] at hf
      by_cases hi7 : i4 = 2
      · subst hi7
        rw [if_pos rfl] at hf
        refine ⟨13, hh_Lw_load_2, fun z => ?_⟩
        refine hv_astore (pn := 15) (i := 4) (lo' := [some (.ref a0), some (.int x1), some (.int x2), some (.ref a3), some (.ref z)]) X d_Lw_load_13 ?_
        refine hv_iconst (pn := 16) (v := 1) X d_Lw_load_15 ?_
        cases hf
        exact hv_iret X d_Lw_load_16 E
      · rw [if_neg hi7] at hf
        cases hf
    · have hi9 : (Sum.inr (some (.int v5)) : Nat ⊕ Option Value) = .inl i9 := hi9
      cases hi9
set_option maxHeartbeats 4000000 in
set_option maxRecDepth 100000 in
theorem c_Lw_digest (l : Launch) (hlt : l.stackTraces = false) (G : ho_G) (N : Nat) (σ : ho_H) (a0 : Nat) (x1 : Int32) (x2 : Int32) (a3 : Nat) (σ' : ho_H) (r : Int32) (hf : f_Lw_digest G N σ a0 x1 x2 a3 = some (σ', r)) : hv_C l G y_Lw_digest (Cond.codeWith y_Lw_digest b_Lw_digest 5 (some (.int)) [(0, 10, 13, 19), (0, 10, 17, 25)] :: hv_ws) 7 183 [.ref a0, .int x1, .int x2, .ref a3] σ σ' (some (.int r)) := by
  refine hw_met [some (.ref a0), some (.int x1), some (.int x2), some (.ref a3), none] (by decide +kernel) (by intro v hv; simp at hv; rcases hv with rfl | rfl | rfl | rfl <;> rfl) (Nat.le_of_ble_eq_true rfl) rfl ?_
  intro k X HT hkl hkG E
  subst hkl
  subst hkG
  unfold f_Lw_digest at hf
  refine hv_aload_n (pn := 1) X d_Lw_digest_0 ?_
  refine hv_iconst (pn := 2) (v := 0) X d_Lw_digest_1 ?_
  refine hv_aload_n (pn := 3) X d_Lw_digest_2 ?_
  refine hv_iload_n (pn := 4) X d_Lw_digest_3 ?_
  refine hv_iload_n (pn := 5) X d_Lw_digest_4 ?_
  obtain ⟨_, hr1, hf⟩ := bd_E hf
  obtain ⟨σ2, o3, hσ2, hf⟩ := bd2_E hf
  obtain ⟨hσ2, mσ2⟩ := ho_ck_E hσ2
  refine hw_call (pn := 8) X HT d_Lw_digest_5 (c_Of_digest _ hlt _ N σ a0 x1 x2 _ _ hσ2) cs_Lw_27 q_2_142 rfl q_2_143 q_2_141 hr1 (by decide) (by decide) mσ2 (Nat.le_of_ble_eq_true rfl) (fun r9 hr9 => ?_) (fun i9 hi9 => ?_)
  · rcases o3 with i4 | v5
    · have hr9 : (Sum.inl i4 : Nat ⊕ Option Value) = .inr r9 := hr9
      cases hr9
    · have hr9 : (Sum.inr (some (.int v5)) : Nat ⊕ Option Value) = .inr r9 := hr9
      cases hr9
      dsimp only [sm_e] at hf
      refine hv_i2l (pn := 9) X d_Lw_digest_8 ?_
      obtain ⟨σ6, hσ6, hf⟩ := bd_E hf
      refine hv_last (pn := 10) X d_Lw_digest_9 hσ6 ?_
      refine hv_goto (tgt := 21) X d_Lw_digest_10 (by decide) ?_
      refine hv_iconst (pn := 22) (v := 0) X d_Lw_digest_21 ?_
      cases hf
      exact hv_iret X d_Lw_digest_22 E
  · rcases o3 with i4 | v5
    · have hi9 : (Sum.inl i4 : Nat ⊕ Option Value) = .inl i9 := hi9
      have hi9 := Sum.inl.inj hi9
      subst hi9
      dsimp only [sm_e] at hf
      by_cases hi7 : i4 = 1
      · subst hi7
        rw [if_pos rfl] at hf
        refine ⟨13, hh_Lw_digest_1, fun z => ?_⟩
        refine hv_astore (pn := 15) (i := 4) (lo' := [some (.ref a0), some (.int x1), some (.int x2), some (.ref a3), some (.ref z)]) X d_Lw_digest_13 ?_
        refine hv_iconst (pn := 16) (v := 1) X d_Lw_digest_15 ?_
        cases hf
        exact hv_iret X d_Lw_digest_16 E
      · rw [if_neg hi7] at hf
        by_cases hi8 : i4 = 2
        · subst hi8
          rw [if_pos rfl] at hf
          refine ⟨17, hh_Lw_digest_2, fun z => ?_⟩
          refine hv_astore (pn := 19) (i := 4) (lo' := [some (.ref a0), some (.int x1), some (.int x2), some (.ref a3), some (.ref z)]) X d_Lw_digest_17 ?_
          refine hv_iconst (pn := 20) (v := 2) X d_Lw_digest_19 ?_
          cases hf
          exact hv_iret X d_Lw_digest_20 E
        · rw [if_neg hi8] at hf
          cases hf
    · have hi9 : (Sum.inr (some (.int v5)) : Nat ⊕ Option Value) = .inl i9 := hi9
      cases hi9
set_option maxHeartbeats 4000000 in
set_option maxRecDepth 100000 in
theorem c_Lw_send (l : Launch) (hlt : l.stackTraces = false) (G : ho_G) (N : Nat) (σ : ho_H) (a0 : Nat) (x1 : Int32) (a2 : Nat) (σ' : ho_H) (r : Int32) (hf : f_Lw_send G N σ a0 x1 a2 = some (σ', r)) : hv_C l G y_Lw_send (Cond.codeWith y_Lw_send b_Lw_send 4 (some (.int)) [(0, 9, 12, 19), (0, 9, 15, 13), (0, 9, 18, 33)] :: hv_ws) 9 239 [.ref a0, .int x1, .ref a2] σ σ' (some (.int r)) := by
  refine hw_met [some (.ref a0), some (.int x1), some (.ref a2), none] (by decide +kernel) (by intro v hv; simp at hv; rcases hv with rfl | rfl | rfl <;> rfl) (Nat.le_of_ble_eq_true rfl) rfl ?_
  intro k X HT hkl hkG E
  subst hkl
  subst hkG
  unfold f_Lw_send at hf
  refine hv_aload_n (pn := 1) X d_Lw_send_0 ?_
  refine hv_iconst (pn := 2) (v := 0) X d_Lw_send_1 ?_
  refine hv_aload_n (pn := 3) X d_Lw_send_2 ?_
  refine hv_iload_n (pn := 4) X d_Lw_send_3 ?_
  obtain ⟨_, hr1, hf⟩ := bd_E hf
  obtain ⟨σ2, o3, hσ2, hf⟩ := bd2_E hf
  obtain ⟨hσ2, mσ2⟩ := ho_ck_E hσ2
  refine hw_call (pn := 7) X HT d_Lw_send_4 (c_Of_send _ hlt _ N σ a0 x1 _ _ hσ2) cs_Lw_30 q_2_156 rfl q_2_157 q_2_155 hr1 (by decide) (by decide) mσ2 (Nat.le_of_ble_eq_true rfl) (fun r9 hr9 => ?_) (fun i9 hi9 => ?_)
  · rcases o3 with i4 | v5
    · have hr9 : (Sum.inl i4 : Nat ⊕ Option Value) = .inr r9 := hr9
      cases hr9
    · have hr9 : (Sum.inr (some (.int v5)) : Nat ⊕ Option Value) = .inr r9 := hr9
      cases hr9
      dsimp only [sm_e] at hf
      refine hv_i2l (pn := 8) X d_Lw_send_7 ?_
      obtain ⟨σ6, hσ6, hf⟩ := bd_E hf
      refine hv_last (pn := 9) X d_Lw_send_8 hσ6 ?_
      refine hv_goto (tgt := 21) X d_Lw_send_9 (by decide) ?_
      refine hv_iconst (pn := 22) (v := 0) X d_Lw_send_21 ?_
      cases hf
      exact hv_iret X d_Lw_send_22 E
  · rcases o3 with i4 | v5
    · have hi9 : (Sum.inl i4 : Nat ⊕ Option Value) = .inl i9 := hi9
      have hi9 := Sum.inl.inj hi9
      subst hi9
      dsimp only [sm_e] at hf
      by_cases hi7 : i4 = 1
      · subst hi7
        rw [if_pos rfl] at hf
        refine ⟨12, hh_Lw_send_1, fun z => ?_⟩
        refine hv_astore_n (pn := 13) (i := 3) (lo' := [some (.ref a0), some (.int x1), some (.ref a2), some (.ref z)]) X d_Lw_send_12 ?_
        refine hv_iconst (pn := 14) (v := 1) X d_Lw_send_13 ?_
        cases hf
        exact hv_iret X d_Lw_send_14 E
      · rw [if_neg hi7] at hf
        by_cases hi8 : i4 = 0
        · subst hi8
          rw [if_pos rfl] at hf
          refine ⟨15, hh_Lw_send_0, fun z => ?_⟩
          refine hv_astore_n (pn := 16) (i := 3) (lo' := [some (.ref a0), some (.int x1), some (.ref a2), some (.ref z)]) X d_Lw_send_15 ?_
          refine hv_iconst (pn := 17) (v := 2) X d_Lw_send_16 ?_
          cases hf
          exact hv_iret X d_Lw_send_17 E
        · rw [if_neg hi8] at hf
          by_cases hi9 : i4 = 3
          · subst hi9
            rw [if_pos rfl] at hf
            refine ⟨18, hh_Lw_send_3, fun z => ?_⟩
            refine hv_astore_n (pn := 19) (i := 3) (lo' := [some (.ref a0), some (.int x1), some (.ref a2), some (.ref z)]) X d_Lw_send_18 ?_
            refine hv_iconst (pn := 20) (v := 3) X d_Lw_send_19 ?_
            cases hf
            exact hv_iret X d_Lw_send_20 E
          · rw [if_neg hi9] at hf
            cases hf
    · have hi9 : (Sum.inr (some (.int v5)) : Nat ⊕ Option Value) = .inl i9 := hi9
      cases hi9
set_option maxHeartbeats 4000000 in
set_option maxRecDepth 100000 in
theorem c_Lw_root (l : Launch) (hlt : l.stackTraces = false) (G : ho_G) (N : Nat) (σ : ho_H) (a0 : Nat) (a1 : Nat) (σ' : ho_H) (r : Int32) (hf : f_Lw_root G N σ a0 a1 = some (σ', r)) : hv_C l G y_Lw_root (Cond.codeWith y_Lw_root b_Lw_root 3 (some (.int)) [(0, 8, 11, 13), (0, 8, 14, 33)] :: hv_ws) 9 238 [.ref a0, .ref a1] σ σ' (some (.int r)) := by
  refine hw_met [some (.ref a0), some (.ref a1), none] (by decide +kernel) (by intro v hv; simp at hv; rcases hv with rfl | rfl <;> rfl) (Nat.le_of_ble_eq_true rfl) rfl ?_
  intro k X HT hkl hkG E
  subst hkl
  subst hkG
  unfold f_Lw_root at hf
  refine hv_aload_n (pn := 1) X d_Lw_root_0 ?_
  refine hv_iconst (pn := 2) (v := 0) X d_Lw_root_1 ?_
  refine hv_aload_n (pn := 3) X d_Lw_root_2 ?_
  obtain ⟨_, hr1, hf⟩ := bd_E hf
  obtain ⟨σ2, o3, hσ2, hf⟩ := bd2_E hf
  obtain ⟨hσ2, mσ2⟩ := ho_ck_E hσ2
  refine hw_call (pn := 6) X HT d_Lw_root_3 (c_Of_root _ hlt _ N σ a0 _ _ hσ2) cs_Lw_35 q_3_58 rfl q_3_59 q_3_57 hr1 (by decide) (by decide) mσ2 (Nat.le_of_ble_eq_true rfl) (fun r9 hr9 => ?_) (fun i9 hi9 => ?_)
  · rcases o3 with i4 | v5
    · have hr9 : (Sum.inl i4 : Nat ⊕ Option Value) = .inr r9 := hr9
      cases hr9
    · have hr9 : (Sum.inr (some (.int v5)) : Nat ⊕ Option Value) = .inr r9 := hr9
      cases hr9
      dsimp only [sm_e] at hf
      refine hv_i2l (pn := 7) X d_Lw_root_6 ?_
      obtain ⟨σ6, hσ6, hf⟩ := bd_E hf
      refine hv_last (pn := 8) X d_Lw_root_7 hσ6 ?_
      refine hv_goto (tgt := 17) X d_Lw_root_8 (by decide) ?_
      refine hv_iconst (pn := 18) (v := 0) X d_Lw_root_17 ?_
      cases hf
      exact hv_iret X d_Lw_root_18 E
  · rcases o3 with i4 | v5
    · have hi9 : (Sum.inl i4 : Nat ⊕ Option Value) = .inl i9 := hi9
      have hi9 := Sum.inl.inj hi9
      subst hi9
      dsimp only [sm_e] at hf
      by_cases hi7 : i4 = 0
      · subst hi7
        rw [if_pos rfl] at hf
        refine ⟨11, hh_Lw_root_0, fun z => ?_⟩
        refine hv_astore_n (pn := 12) (i := 2) (lo' := [some (.ref a0), some (.ref a1), some (.ref z)]) X d_Lw_root_11 ?_
        refine hv_iconst (pn := 13) (v := 1) X d_Lw_root_12 ?_
        cases hf
        exact hv_iret X d_Lw_root_13 E
      · rw [if_neg hi7] at hf
        by_cases hi8 : i4 = 3
        · subst hi8
          rw [if_pos rfl] at hf
          refine ⟨14, hh_Lw_root_3, fun z => ?_⟩
          refine hv_astore_n (pn := 15) (i := 2) (lo' := [some (.ref a0), some (.ref a1), some (.ref z)]) X d_Lw_root_14 ?_
          refine hv_iconst (pn := 16) (v := 2) X d_Lw_root_15 ?_
          cases hf
          exact hv_iret X d_Lw_root_16 E
        · rw [if_neg hi8] at hf
          cases hf
    · have hi9 : (Sum.inr (some (.int v5)) : Nat ⊕ Option Value) = .inl i9 := hi9
      cases hi9
set_option maxHeartbeats 4000000 in
set_option maxRecDepth 100000 in
theorem c_Lw_packet (l : Launch) (hlt : l.stackTraces = false) (G : ho_G) (N : Nat) (σ : ho_H) (a0 : Nat) (x1 : Int32) (x2 : Int32) (a3 : Nat) (σ' : ho_H) (r : Int32) (hf : f_Lw_packet G N σ a0 x1 x2 a3 = some (σ', r)) : hv_C l G y_Lw_packet (Cond.codeWith y_Lw_packet b_Lw_packet 5 (some (.int)) [(0, 10, 13, 25)] :: hv_ws) 7 182 [.ref a0, .int x1, .int x2, .ref a3] σ σ' (some (.int r)) := by
  refine hw_met [some (.ref a0), some (.int x1), some (.int x2), some (.ref a3), none] (by decide +kernel) (by intro v hv; simp at hv; rcases hv with rfl | rfl | rfl | rfl <;> rfl) (Nat.le_of_ble_eq_true rfl) rfl ?_
  intro k X HT hkl hkG E
  subst hkl
  subst hkG
  unfold f_Lw_packet at hf
  refine hv_aload_n (pn := 1) X d_Lw_packet_0 ?_
  refine hv_iconst (pn := 2) (v := 0) X d_Lw_packet_1 ?_
  refine hv_aload_n (pn := 3) X d_Lw_packet_2 ?_
  refine hv_iload_n (pn := 4) X d_Lw_packet_3 ?_
  refine hv_iload_n (pn := 5) X d_Lw_packet_4 ?_
  obtain ⟨_, hr1, hf⟩ := bd_E hf
  obtain ⟨σ2, o3, hσ2, hf⟩ := bd2_E hf
  obtain ⟨hσ2, mσ2⟩ := ho_ck_E hσ2
  refine hw_call (pn := 8) X HT d_Lw_packet_5 (c_Of_packet _ hlt _ N σ a0 x1 x2 _ _ hσ2) cs_Lw_39 q_3_65 rfl q_3_66 q_3_64 hr1 (by decide) (by decide) mσ2 (Nat.le_of_ble_eq_true rfl) (fun r9 hr9 => ?_) (fun i9 hi9 => ?_)
  · rcases o3 with i4 | v5
    · have hr9 : (Sum.inl i4 : Nat ⊕ Option Value) = .inr r9 := hr9
      cases hr9
    · have hr9 : (Sum.inr (some (.int v5)) : Nat ⊕ Option Value) = .inr r9 := hr9
      cases hr9
      dsimp only [sm_e] at hf
      refine hv_i2l (pn := 9) X d_Lw_packet_8 ?_
      obtain ⟨σ6, hσ6, hf⟩ := bd_E hf
      refine hv_last (pn := 10) X d_Lw_packet_9 hσ6 ?_
      refine hv_goto (tgt := 17) X d_Lw_packet_10 (by decide) ?_
      refine hv_iconst (pn := 18) (v := 0) X d_Lw_packet_17 ?_
      cases hf
      exact hv_iret X d_Lw_packet_18 E
  · rcases o3 with i4 | v5
    · have hi9 : (Sum.inl i4 : Nat ⊕ Option Value) = .inl i9 := hi9
      have hi9 := Sum.inl.inj hi9
      subst hi9
      dsimp only [sm_e] at hf
      by_cases hi7 : i4 = 2
      · subst hi7
        rw [if_pos rfl] at hf
        refine ⟨13, hh_Lw_packet_2, fun z => ?_⟩
        refine hv_astore (pn := 15) (i := 4) (lo' := [some (.ref a0), some (.int x1), some (.int x2), some (.ref a3), some (.ref z)]) X d_Lw_packet_13 ?_
        refine hv_iconst (pn := 16) (v := 1) X d_Lw_packet_15 ?_
        cases hf
        exact hv_iret X d_Lw_packet_16 E
      · rw [if_neg hi7] at hf
        cases hf
    · have hi9 : (Sum.inr (some (.int v5)) : Nat ⊕ Option Value) = .inl i9 := hi9
      cases hi9
set_option maxHeartbeats 4000000 in
set_option maxRecDepth 100000 in
theorem c_Lw_key (l : Launch) (hlt : l.stackTraces = false) (G : ho_G) (N : Nat) (σ : ho_H) (a0 : Nat) (x1 : Int32) (x2 : Int32) (a3 : Nat) (σ' : ho_H) (r : Int32) (hf : f_Lw_key G N σ a0 x1 x2 a3 = some (σ', r)) : hv_C l G y_Lw_key (Cond.codeWith y_Lw_key b_Lw_key 5 (some (.int)) [(0, 10, 13, 25), (0, 10, 17, 13)] :: hv_ws) 7 184 [.ref a0, .int x1, .int x2, .ref a3] σ σ' (some (.int r)) := by
  refine hw_met [some (.ref a0), some (.int x1), some (.int x2), some (.ref a3), none] (by decide +kernel) (by intro v hv; simp at hv; rcases hv with rfl | rfl | rfl | rfl <;> rfl) (Nat.le_of_ble_eq_true rfl) rfl ?_
  intro k X HT hkl hkG E
  subst hkl
  subst hkG
  unfold f_Lw_key at hf
  refine hv_aload_n (pn := 1) X d_Lw_key_0 ?_
  refine hv_iconst (pn := 2) (v := 0) X d_Lw_key_1 ?_
  refine hv_aload_n (pn := 3) X d_Lw_key_2 ?_
  refine hv_iload_n (pn := 4) X d_Lw_key_3 ?_
  refine hv_iload_n (pn := 5) X d_Lw_key_4 ?_
  obtain ⟨_, hr1, hf⟩ := bd_E hf
  obtain ⟨σ2, o3, hσ2, hf⟩ := bd2_E hf
  obtain ⟨hσ2, mσ2⟩ := ho_ck_E hσ2
  refine hw_call (pn := 8) X HT d_Lw_key_5 (c_Of_key _ hlt _ N σ a0 x1 x2 _ _ hσ2) cs_Lw_42 q_3_90 rfl q_3_91 q_3_89 hr1 (by decide) (by decide) mσ2 (Nat.le_of_ble_eq_true rfl) (fun r9 hr9 => ?_) (fun i9 hi9 => ?_)
  · rcases o3 with i4 | v5
    · have hr9 : (Sum.inl i4 : Nat ⊕ Option Value) = .inr r9 := hr9
      cases hr9
    · have hr9 : (Sum.inr (some (.int v5)) : Nat ⊕ Option Value) = .inr r9 := hr9
      cases hr9
      dsimp only [sm_e] at hf
      refine hv_i2l (pn := 9) X d_Lw_key_8 ?_
      obtain ⟨σ6, hσ6, hf⟩ := bd_E hf
      refine hv_last (pn := 10) X d_Lw_key_9 hσ6 ?_
      refine hv_goto (tgt := 21) X d_Lw_key_10 (by decide) ?_
      refine hv_iconst (pn := 22) (v := 0) X d_Lw_key_21 ?_
      cases hf
      exact hv_iret X d_Lw_key_22 E
  · rcases o3 with i4 | v5
    · have hi9 : (Sum.inl i4 : Nat ⊕ Option Value) = .inl i9 := hi9
      have hi9 := Sum.inl.inj hi9
      subst hi9
      dsimp only [sm_e] at hf
      by_cases hi7 : i4 = 2
      · subst hi7
        rw [if_pos rfl] at hf
        refine ⟨13, hh_Lw_key_2, fun z => ?_⟩
        refine hv_astore (pn := 15) (i := 4) (lo' := [some (.ref a0), some (.int x1), some (.int x2), some (.ref a3), some (.ref z)]) X d_Lw_key_13 ?_
        refine hv_iconst (pn := 16) (v := 1) X d_Lw_key_15 ?_
        cases hf
        exact hv_iret X d_Lw_key_16 E
      · rw [if_neg hi7] at hf
        by_cases hi8 : i4 = 0
        · subst hi8
          rw [if_pos rfl] at hf
          refine ⟨17, hh_Lw_key_0, fun z => ?_⟩
          refine hv_astore (pn := 19) (i := 4) (lo' := [some (.ref a0), some (.int x1), some (.int x2), some (.ref a3), some (.ref z)]) X d_Lw_key_17 ?_
          refine hv_iconst (pn := 20) (v := 2) X d_Lw_key_19 ?_
          cases hf
          exact hv_iret X d_Lw_key_20 E
        · rw [if_neg hi8] at hf
          cases hf
    · have hi9 : (Sum.inr (some (.int v5)) : Nat ⊕ Option Value) = .inl i9 := hi9
      cases hi9
set_option maxHeartbeats 4000000 in
set_option maxRecDepth 100000 in
theorem c_Lw_join (l : Launch) (hlt : l.stackTraces = false) (G : ho_G) (N : Nat) (σ : ho_H) (a0 : Nat) (x1 : Int32) (x2 : Int32) (σ' : ho_H) (r : Int32) (hf : f_Lw_join G N σ a0 x1 x2 = some (σ', r)) : hv_C l G y_Lw_join (Cond.codeWith y_Lw_join b_Lw_join 4 (some (.int)) [(0, 6, 9, 25), (0, 6, 12, 13)] :: hv_ws) 7 183 [.ref a0, .int x1, .int x2] σ σ' (some (.int r)) := by
  refine hw_met [some (.ref a0), some (.int x1), some (.int x2), none] (by decide +kernel) (by intro v hv; simp at hv; rcases hv with rfl | rfl | rfl <;> rfl) (Nat.le_of_ble_eq_true rfl) rfl ?_
  intro k X HT hkl hkG E
  subst hkl
  subst hkG
  unfold f_Lw_join at hf
  refine hv_aload_n (pn := 1) X d_Lw_join_0 ?_
  refine hv_iload_n (pn := 2) X d_Lw_join_1 ?_
  refine hv_iload_n (pn := 3) X d_Lw_join_2 ?_
  obtain ⟨_, hr1, hf⟩ := bd_E hf
  obtain ⟨σ2, o3, hσ2, hf⟩ := bd2_E hf
  obtain ⟨hσ2, mσ2⟩ := ho_ck_E hσ2
  refine hw_call (pn := 6) X HT d_Lw_join_3 (c_Of_join _ hlt _ N σ a0 x1 x2 _ _ hσ2) cs_Lw_45 q_3_98 rfl q_3_99 q_3_97 hr1 (by decide) (by decide) mσ2 (Nat.le_of_ble_eq_true rfl) (fun r9 hr9 => ?_) (fun i9 hi9 => ?_)
  · rcases o3 with i4 | _
    · have hr9 : (Sum.inl i4 : Nat ⊕ Option Value) = .inr r9 := hr9
      cases hr9
    · have hr9 : (Sum.inr none : Nat ⊕ Option Value) = .inr r9 := hr9
      cases hr9
      dsimp only [sm_e] at hf
      refine hv_goto (tgt := 15) X d_Lw_join_6 (by decide) ?_
      refine hv_iconst (pn := 16) (v := 0) X d_Lw_join_15 ?_
      cases hf
      exact hv_iret X d_Lw_join_16 E
  · rcases o3 with i4 | _
    · have hi9 : (Sum.inl i4 : Nat ⊕ Option Value) = .inl i9 := hi9
      have hi9 := Sum.inl.inj hi9
      subst hi9
      dsimp only [sm_e] at hf
      by_cases hi6 : i4 = 2
      · subst hi6
        rw [if_pos rfl] at hf
        refine ⟨9, hh_Lw_join_2, fun z => ?_⟩
        refine hv_astore_n (pn := 10) (i := 3) (lo' := [some (.ref a0), some (.int x1), some (.int x2), some (.ref z)]) X d_Lw_join_9 ?_
        refine hv_iconst (pn := 11) (v := 1) X d_Lw_join_10 ?_
        cases hf
        exact hv_iret X d_Lw_join_11 E
      · rw [if_neg hi6] at hf
        by_cases hi7 : i4 = 0
        · subst hi7
          rw [if_pos rfl] at hf
          refine ⟨12, hh_Lw_join_0, fun z => ?_⟩
          refine hv_astore_n (pn := 13) (i := 3) (lo' := [some (.ref a0), some (.int x1), some (.int x2), some (.ref z)]) X d_Lw_join_12 ?_
          refine hv_iconst (pn := 14) (v := 2) X d_Lw_join_13 ?_
          cases hf
          exact hv_iret X d_Lw_join_14 E
        · rw [if_neg hi7] at hf
          cases hf
    · have hi9 : (Sum.inr none : Nat ⊕ Option Value) = .inl i9 := hi9
      cases hi9
set_option maxHeartbeats 4000000 in
set_option maxRecDepth 100000 in
theorem c_Lw_drift (l : Launch) (hlt : l.stackTraces = false) (G : ho_G) (N : Nat) (σ : ho_H) (a0 : Nat) (x1 : Int32) (x2 : Int32) (a3 : Nat) (σ' : ho_H) (r : Int32) (hf : f_Lw_drift G N σ a0 x1 x2 a3 = some (σ', r)) : hv_C l G y_Lw_drift (Cond.codeWith y_Lw_drift b_Lw_drift 5 (some (.int)) [(0, 10, 13, 25), (0, 10, 17, 19)] :: hv_ws) 7 183 [.ref a0, .int x1, .int x2, .ref a3] σ σ' (some (.int r)) := by
  refine hw_met [some (.ref a0), some (.int x1), some (.int x2), some (.ref a3), none] (by decide +kernel) (by intro v hv; simp at hv; rcases hv with rfl | rfl | rfl | rfl <;> rfl) (Nat.le_of_ble_eq_true rfl) rfl ?_
  intro k X HT hkl hkG E
  subst hkl
  subst hkG
  unfold f_Lw_drift at hf
  refine hv_aload_n (pn := 1) X d_Lw_drift_0 ?_
  refine hv_iconst (pn := 2) (v := 0) X d_Lw_drift_1 ?_
  refine hv_aload_n (pn := 3) X d_Lw_drift_2 ?_
  refine hv_iload_n (pn := 4) X d_Lw_drift_3 ?_
  refine hv_iload_n (pn := 5) X d_Lw_drift_4 ?_
  obtain ⟨_, hr1, hf⟩ := bd_E hf
  obtain ⟨σ2, o3, hσ2, hf⟩ := bd2_E hf
  obtain ⟨hσ2, mσ2⟩ := ho_ck_E hσ2
  refine hw_call (pn := 8) X HT d_Lw_drift_5 (c_Of_drift _ hlt _ N σ a0 x1 x2 _ _ hσ2) cs_Lw_49 q_3_126 rfl q_3_127 q_3_125 hr1 (by decide) (by decide) mσ2 (Nat.le_of_ble_eq_true rfl) (fun r9 hr9 => ?_) (fun i9 hi9 => ?_)
  · rcases o3 with i4 | v5
    · have hr9 : (Sum.inl i4 : Nat ⊕ Option Value) = .inr r9 := hr9
      cases hr9
    · have hr9 : (Sum.inr (some (.int v5)) : Nat ⊕ Option Value) = .inr r9 := hr9
      cases hr9
      dsimp only [sm_e] at hf
      refine hv_i2l (pn := 9) X d_Lw_drift_8 ?_
      obtain ⟨σ6, hσ6, hf⟩ := bd_E hf
      refine hv_last (pn := 10) X d_Lw_drift_9 hσ6 ?_
      refine hv_goto (tgt := 21) X d_Lw_drift_10 (by decide) ?_
      refine hv_iconst (pn := 22) (v := 0) X d_Lw_drift_21 ?_
      cases hf
      exact hv_iret X d_Lw_drift_22 E
  · rcases o3 with i4 | v5
    · have hi9 : (Sum.inl i4 : Nat ⊕ Option Value) = .inl i9 := hi9
      have hi9 := Sum.inl.inj hi9
      subst hi9
      dsimp only [sm_e] at hf
      by_cases hi7 : i4 = 2
      · subst hi7
        rw [if_pos rfl] at hf
        refine ⟨13, hh_Lw_drift_2, fun z => ?_⟩
        refine hv_astore (pn := 15) (i := 4) (lo' := [some (.ref a0), some (.int x1), some (.int x2), some (.ref a3), some (.ref z)]) X d_Lw_drift_13 ?_
        refine hv_iconst (pn := 16) (v := 1) X d_Lw_drift_15 ?_
        cases hf
        exact hv_iret X d_Lw_drift_16 E
      · rw [if_neg hi7] at hf
        by_cases hi8 : i4 = 1
        · subst hi8
          rw [if_pos rfl] at hf
          refine ⟨17, hh_Lw_drift_1, fun z => ?_⟩
          refine hv_astore (pn := 19) (i := 4) (lo' := [some (.ref a0), some (.int x1), some (.int x2), some (.ref a3), some (.ref z)]) X d_Lw_drift_17 ?_
          refine hv_iconst (pn := 20) (v := 2) X d_Lw_drift_19 ?_
          cases hf
          exact hv_iret X d_Lw_drift_20 E
        · rw [if_neg hi8] at hf
          cases hf
    · have hi9 : (Sum.inr (some (.int v5)) : Nat ⊕ Option Value) = .inl i9 := hi9
      cases hi9
set_option maxHeartbeats 4000000 in
set_option maxRecDepth 100000 in
theorem c_Lw_arrive (l : Launch) (hlt : l.stackTraces = false) (G : ho_G) (N : Nat) (σ : ho_H) (a0 : Nat) (x1 : Int32) (x2 : Int32) (x3 : Int32) (x4 : Int32) (a5 : Nat) (σ' : ho_H) (r : Int32) (hf : f_Lw_arrive G N σ a0 x1 x2 x3 x4 a5 = some (σ', r)) : hv_C l G y_Lw_arrive (Cond.codeWith y_Lw_arrive b_Lw_arrive 7 (some (.int)) [(0, 14, 17, 25), (0, 14, 21, 19)] :: hv_ws) 11 286 [.ref a0, .int x1, .int x2, .int x3, .int x4, .ref a5] σ σ' (some (.int r)) := by
  refine hw_met [some (.ref a0), some (.int x1), some (.int x2), some (.int x3), some (.int x4), some (.ref a5), none] (by decide +kernel) (by intro v hv; simp at hv; rcases hv with rfl | rfl | rfl | rfl | rfl | rfl <;> rfl) (Nat.le_of_ble_eq_true rfl) rfl ?_
  intro k X HT hkl hkG E
  subst hkl
  subst hkG
  unfold f_Lw_arrive at hf
  refine hv_aload (pn := 2) X d_Lw_arrive_0 ?_
  refine hv_iconst (pn := 3) (v := 0) X d_Lw_arrive_2 ?_
  refine hv_aload_n (pn := 4) X d_Lw_arrive_3 ?_
  refine hv_iload_n (pn := 5) X d_Lw_arrive_4 ?_
  refine hv_iload_n (pn := 6) X d_Lw_arrive_5 ?_
  refine hv_iload_n (pn := 7) X d_Lw_arrive_6 ?_
  refine hv_iload (pn := 9) X d_Lw_arrive_7 ?_
  obtain ⟨_, hr1, hf⟩ := bd_E hf
  obtain ⟨σ2, o3, hσ2, hf⟩ := bd2_E hf
  obtain ⟨hσ2, mσ2⟩ := ho_ck_E hσ2
  refine hw_call (pn := 12) X HT d_Lw_arrive_9 (c_Of_arrive _ hlt _ N σ a0 x1 x2 x3 x4 _ _ hσ2) cs_Lw_52 q_3_133 rfl q_3_134 q_3_132 hr1 (by decide) (by decide) mσ2 (Nat.le_of_ble_eq_true rfl) (fun r9 hr9 => ?_) (fun i9 hi9 => ?_)
  · rcases o3 with i4 | v5
    · have hr9 : (Sum.inl i4 : Nat ⊕ Option Value) = .inr r9 := hr9
      cases hr9
    · have hr9 : (Sum.inr (some (.int v5)) : Nat ⊕ Option Value) = .inr r9 := hr9
      cases hr9
      dsimp only [sm_e] at hf
      refine hv_i2l (pn := 13) X d_Lw_arrive_12 ?_
      obtain ⟨σ6, hσ6, hf⟩ := bd_E hf
      refine hv_last (pn := 14) X d_Lw_arrive_13 hσ6 ?_
      refine hv_goto (tgt := 25) X d_Lw_arrive_14 (by decide) ?_
      refine hv_iconst (pn := 26) (v := 0) X d_Lw_arrive_25 ?_
      cases hf
      exact hv_iret X d_Lw_arrive_26 E
  · rcases o3 with i4 | v5
    · have hi9 : (Sum.inl i4 : Nat ⊕ Option Value) = .inl i9 := hi9
      have hi9 := Sum.inl.inj hi9
      subst hi9
      dsimp only [sm_e] at hf
      by_cases hi7 : i4 = 2
      · subst hi7
        rw [if_pos rfl] at hf
        refine ⟨17, hh_Lw_arrive_2, fun z => ?_⟩
        refine hv_astore (pn := 19) (i := 6) (lo' := [some (.ref a0), some (.int x1), some (.int x2), some (.int x3), some (.int x4), some (.ref a5), some (.ref z)]) X d_Lw_arrive_17 ?_
        refine hv_iconst (pn := 20) (v := 1) X d_Lw_arrive_19 ?_
        cases hf
        exact hv_iret X d_Lw_arrive_20 E
      · rw [if_neg hi7] at hf
        by_cases hi8 : i4 = 1
        · subst hi8
          rw [if_pos rfl] at hf
          refine ⟨21, hh_Lw_arrive_1, fun z => ?_⟩
          refine hv_astore (pn := 23) (i := 6) (lo' := [some (.ref a0), some (.int x1), some (.int x2), some (.int x3), some (.int x4), some (.ref a5), some (.ref z)]) X d_Lw_arrive_21 ?_
          refine hv_iconst (pn := 24) (v := 2) X d_Lw_arrive_23 ?_
          cases hf
          exact hv_iret X d_Lw_arrive_24 E
        · rw [if_neg hi8] at hf
          cases hf
    · have hi9 : (Sum.inr (some (.int v5)) : Nat ⊕ Option Value) = .inl i9 := hi9
      cases hi9
set_option maxHeartbeats 4000000 in
set_option maxRecDepth 100000 in
theorem c_Lw_receiver (l : Launch) (hlt : l.stackTraces = false) (G : ho_G) (N : Nat) (σ : ho_H) (a0 : Nat) (x1 : Int32) (x2 : Int32) (a3 : Nat) (σ' : ho_H) (r : Int32) (hf : f_Lw_receiver G N σ a0 x1 x2 a3 = some (σ', r)) : hv_C l G y_Lw_receiver (Cond.codeWith y_Lw_receiver b_Lw_receiver 5 (some (.int)) [(0, 10, 13, 25)] :: hv_ws) 7 183 [.ref a0, .int x1, .int x2, .ref a3] σ σ' (some (.int r)) := by
  refine hw_met [some (.ref a0), some (.int x1), some (.int x2), some (.ref a3), none] (by decide +kernel) (by intro v hv; simp at hv; rcases hv with rfl | rfl | rfl | rfl <;> rfl) (Nat.le_of_ble_eq_true rfl) rfl ?_
  intro k X HT hkl hkG E
  subst hkl
  subst hkG
  unfold f_Lw_receiver at hf
  refine hv_aload_n (pn := 1) X d_Lw_receiver_0 ?_
  refine hv_iconst (pn := 2) (v := 0) X d_Lw_receiver_1 ?_
  refine hv_aload_n (pn := 3) X d_Lw_receiver_2 ?_
  refine hv_iload_n (pn := 4) X d_Lw_receiver_3 ?_
  refine hv_iload_n (pn := 5) X d_Lw_receiver_4 ?_
  obtain ⟨_, hr1, hf⟩ := bd_E hf
  obtain ⟨σ2, o3, hσ2, hf⟩ := bd2_E hf
  obtain ⟨hσ2, mσ2⟩ := ho_ck_E hσ2
  refine hw_call (pn := 8) X HT d_Lw_receiver_5 (c_Of_receiver _ hlt _ N σ a0 x1 x2 _ _ hσ2) cs_Lw_56 q_4_1 rfl q_4_2 q_4_0 hr1 (by decide) (by decide) mσ2 (Nat.le_of_ble_eq_true rfl) (fun r9 hr9 => ?_) (fun i9 hi9 => ?_)
  · rcases o3 with i4 | v5
    · have hr9 : (Sum.inl i4 : Nat ⊕ Option Value) = .inr r9 := hr9
      cases hr9
    · have hr9 : (Sum.inr (some (.int v5)) : Nat ⊕ Option Value) = .inr r9 := hr9
      cases hr9
      dsimp only [sm_e] at hf
      refine hv_i2l (pn := 9) X d_Lw_receiver_8 ?_
      obtain ⟨σ6, hσ6, hf⟩ := bd_E hf
      refine hv_last (pn := 10) X d_Lw_receiver_9 hσ6 ?_
      refine hv_goto (tgt := 17) X d_Lw_receiver_10 (by decide) ?_
      refine hv_iconst (pn := 18) (v := 0) X d_Lw_receiver_17 ?_
      cases hf
      exact hv_iret X d_Lw_receiver_18 E
  · rcases o3 with i4 | v5
    · have hi9 : (Sum.inl i4 : Nat ⊕ Option Value) = .inl i9 := hi9
      have hi9 := Sum.inl.inj hi9
      subst hi9
      dsimp only [sm_e] at hf
      by_cases hi7 : i4 = 2
      · subst hi7
        rw [if_pos rfl] at hf
        refine ⟨13, hh_Lw_receiver_2, fun z => ?_⟩
        refine hv_astore (pn := 15) (i := 4) (lo' := [some (.ref a0), some (.int x1), some (.int x2), some (.ref a3), some (.ref z)]) X d_Lw_receiver_13 ?_
        refine hv_iconst (pn := 16) (v := 1) X d_Lw_receiver_15 ?_
        cases hf
        exact hv_iret X d_Lw_receiver_16 E
      · rw [if_neg hi7] at hf
        cases hf
    · have hi9 : (Sum.inr (some (.int v5)) : Nat ⊕ Option Value) = .inl i9 := hi9
      cases hi9
set_option maxHeartbeats 4000000 in
set_option maxRecDepth 100000 in
theorem c_Lw_released (l : Launch) (hlt : l.stackTraces = false) (G : ho_G) (N : Nat) (σ : ho_H) (a0 : Nat) (x1 : Int32) (x2 : Int32) (x3 : Int32) (a4 : Nat) (σ' : ho_H) (r : Int32) (hf : f_Lw_released G N σ a0 x1 x2 x3 a4 = some (σ', r)) : hv_C l G y_Lw_released (Cond.codeWith y_Lw_released b_Lw_released 6 (some (.int)) [(0, 12, 15, 25)] :: hv_ws) 7 184 [.ref a0, .int x1, .int x2, .int x3, .ref a4] σ σ' (some (.int r)) := by
  refine hw_met [some (.ref a0), some (.int x1), some (.int x2), some (.int x3), some (.ref a4), none] (by decide +kernel) (by intro v hv; simp at hv; rcases hv with rfl | rfl | rfl | rfl | rfl <;> rfl) (Nat.le_of_ble_eq_true rfl) rfl ?_
  intro k X HT hkl hkG E
  subst hkl
  subst hkG
  unfold f_Lw_released at hf
  refine hv_aload (pn := 2) X d_Lw_released_0 ?_
  refine hv_iconst (pn := 3) (v := 0) X d_Lw_released_2 ?_
  refine hv_aload_n (pn := 4) X d_Lw_released_3 ?_
  refine hv_iload_n (pn := 5) X d_Lw_released_4 ?_
  refine hv_iload_n (pn := 6) X d_Lw_released_5 ?_
  refine hv_iload_n (pn := 7) X d_Lw_released_6 ?_
  obtain ⟨_, hr1, hf⟩ := bd_E hf
  obtain ⟨σ2, o3, hσ2, hf⟩ := bd2_E hf
  obtain ⟨hσ2, mσ2⟩ := ho_ck_E hσ2
  refine hw_call (pn := 10) X HT d_Lw_released_7 (c_Of_released _ hlt _ N σ a0 x1 x2 x3 _ _ hσ2) cs_Lw_59 q_4_12 rfl q_4_13 q_4_11 hr1 (by decide) (by decide) mσ2 (Nat.le_of_ble_eq_true rfl) (fun r9 hr9 => ?_) (fun i9 hi9 => ?_)
  · rcases o3 with i4 | v5
    · have hr9 : (Sum.inl i4 : Nat ⊕ Option Value) = .inr r9 := hr9
      cases hr9
    · have hr9 : (Sum.inr (some (.int v5)) : Nat ⊕ Option Value) = .inr r9 := hr9
      cases hr9
      dsimp only [sm_e] at hf
      refine hv_i2l (pn := 11) X d_Lw_released_10 ?_
      obtain ⟨σ6, hσ6, hf⟩ := bd_E hf
      refine hv_last (pn := 12) X d_Lw_released_11 hσ6 ?_
      refine hv_goto (tgt := 19) X d_Lw_released_12 (by decide) ?_
      refine hv_iconst (pn := 20) (v := 0) X d_Lw_released_19 ?_
      cases hf
      exact hv_iret X d_Lw_released_20 E
  · rcases o3 with i4 | v5
    · have hi9 : (Sum.inl i4 : Nat ⊕ Option Value) = .inl i9 := hi9
      have hi9 := Sum.inl.inj hi9
      subst hi9
      dsimp only [sm_e] at hf
      by_cases hi7 : i4 = 2
      · subst hi7
        rw [if_pos rfl] at hf
        refine ⟨15, hh_Lw_released_2, fun z => ?_⟩
        refine hv_astore (pn := 17) (i := 5) (lo' := [some (.ref a0), some (.int x1), some (.int x2), some (.int x3), some (.ref a4), some (.ref z)]) X d_Lw_released_15 ?_
        refine hv_iconst (pn := 18) (v := 1) X d_Lw_released_17 ?_
        cases hf
        exact hv_iret X d_Lw_released_18 E
      · rw [if_neg hi7] at hf
        cases hf
    · have hi9 : (Sum.inr (some (.int v5)) : Nat ⊕ Option Value) = .inl i9 := hi9
      cases hi9
set_option maxHeartbeats 4000000 in
set_option maxRecDepth 100000 in
theorem c_Lw_releasedByte (l : Launch) (hlt : l.stackTraces = false) (G : ho_G) (N : Nat) (σ : ho_H) (a0 : Nat) (x1 : Int32) (x2 : Int32) (x3 : Int32) (a4 : Nat) (σ' : ho_H) (r : Int32) (hf : f_Lw_releasedByte G N σ a0 x1 x2 x3 a4 = some (σ', r)) : hv_C l G y_Lw_releasedByte (Cond.codeWith y_Lw_releasedByte b_Lw_releasedByte 6 (some (.int)) [(0, 12, 15, 25)] :: hv_ws) 7 183 [.ref a0, .int x1, .int x2, .int x3, .ref a4] σ σ' (some (.int r)) := by
  refine hw_met [some (.ref a0), some (.int x1), some (.int x2), some (.int x3), some (.ref a4), none] (by decide +kernel) (by intro v hv; simp at hv; rcases hv with rfl | rfl | rfl | rfl | rfl <;> rfl) (Nat.le_of_ble_eq_true rfl) rfl ?_
  intro k X HT hkl hkG E
  subst hkl
  subst hkG
  unfold f_Lw_releasedByte at hf
  refine hv_aload (pn := 2) X d_Lw_releasedByte_0 ?_
  refine hv_iconst (pn := 3) (v := 0) X d_Lw_releasedByte_2 ?_
  refine hv_aload_n (pn := 4) X d_Lw_releasedByte_3 ?_
  refine hv_iload_n (pn := 5) X d_Lw_releasedByte_4 ?_
  refine hv_iload_n (pn := 6) X d_Lw_releasedByte_5 ?_
  refine hv_iload_n (pn := 7) X d_Lw_releasedByte_6 ?_
  obtain ⟨_, hr1, hf⟩ := bd_E hf
  obtain ⟨σ2, o3, hσ2, hf⟩ := bd2_E hf
  obtain ⟨hσ2, mσ2⟩ := ho_ck_E hσ2
  refine hw_call (pn := 10) X HT d_Lw_releasedByte_7 (c_Of_releasedByte _ hlt _ N σ a0 x1 x2 x3 _ _ hσ2) cs_Lw_63 q_4_25 rfl q_4_26 q_4_24 hr1 (by decide) (by decide) mσ2 (Nat.le_of_ble_eq_true rfl) (fun r9 hr9 => ?_) (fun i9 hi9 => ?_)
  · rcases o3 with i4 | v5
    · have hr9 : (Sum.inl i4 : Nat ⊕ Option Value) = .inr r9 := hr9
      cases hr9
    · have hr9 : (Sum.inr (some (.int v5)) : Nat ⊕ Option Value) = .inr r9 := hr9
      cases hr9
      dsimp only [sm_e] at hf
      refine hv_i2l (pn := 11) X d_Lw_releasedByte_10 ?_
      obtain ⟨σ6, hσ6, hf⟩ := bd_E hf
      refine hv_last (pn := 12) X d_Lw_releasedByte_11 hσ6 ?_
      refine hv_goto (tgt := 19) X d_Lw_releasedByte_12 (by decide) ?_
      refine hv_iconst (pn := 20) (v := 0) X d_Lw_releasedByte_19 ?_
      cases hf
      exact hv_iret X d_Lw_releasedByte_20 E
  · rcases o3 with i4 | v5
    · have hi9 : (Sum.inl i4 : Nat ⊕ Option Value) = .inl i9 := hi9
      have hi9 := Sum.inl.inj hi9
      subst hi9
      dsimp only [sm_e] at hf
      by_cases hi7 : i4 = 2
      · subst hi7
        rw [if_pos rfl] at hf
        refine ⟨15, hh_Lw_releasedByte_2, fun z => ?_⟩
        refine hv_astore (pn := 17) (i := 5) (lo' := [some (.ref a0), some (.int x1), some (.int x2), some (.int x3), some (.ref a4), some (.ref z)]) X d_Lw_releasedByte_15 ?_
        refine hv_iconst (pn := 18) (v := 1) X d_Lw_releasedByte_17 ?_
        cases hf
        exact hv_iret X d_Lw_releasedByte_18 E
      · rw [if_neg hi7] at hf
        cases hf
    · have hi9 : (Sum.inr (some (.int v5)) : Nat ⊕ Option Value) = .inl i9 := hi9
      cases hi9
