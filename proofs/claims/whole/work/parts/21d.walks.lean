set_option maxHeartbeats 4000000 in
set_option maxRecDepth 100000 in
theorem w_Md_chain_j82_in23 {k : mk_T} (X : hv_X k b_Md_chain y_Md_chain.cls 8 5 113 (some (.int)) y_Md_chain.name) (N : Nat) (σ : ho_H) (a0 : Nat) (x1 : Int32) (x2 : Int32) (x3 : Int32) (x4 : Int32) (x5 : Int32) (x6 : Int32) (y0 : Int32) (y1 : Int32) (c2 : Nat)  (r : (ho_H × Int32) ⊕ (ho_H)) (hf : f_Md_chain_j82_in23 k.2.1 N σ a0 x1 x2 x3 x4 x5 x6 y0 y1 c2 = some r) (E : sm (fun s => hv_V k s.1 23 [some (.ref a0), some (.int x1), some (.int x2), some (.int x3), some (.int x4), some (.int x5), some (.int s.2), none] []) (fun s => hv_V k s 96 [some (.ref a0), none, none, none, none, none, none, none] []) r) : hv_V k σ 82 [some (.ref a0), some (.int x1), some (.int x2), some (.int x3), some (.int x4), some (.int x5), some (.int x6), none] [.int y0, .int y1, .ref c2] := by
  unfold f_Md_chain_j82_in23 at hf
  refine hv_iload (pn := 84) X d_Md_chain_82 ?_
  refine hv_iconst (pn := 85) (v := 4) X d_Md_chain_84 ?_
  refine hv_irem (pn := 86) X d_Md_chain_85 (by decide) ?_
  obtain ⟨v4, hv4, hf⟩ := bd_E hf
  refine hv_callS (pn := 89) X d_Md_chain_86 (c_Md_byteOf _ _ N σ y0 (ho_rm x6 4) _ hv4) cs_Md_211 q_5_6 (by decide) (by decide) ⟨Nat.le_refl _, Nat.le_refl _⟩ (Nat.le_of_ble_eq_true rfl) ?_
  obtain ⟨σ5, hσ5, hf⟩ := bd_E hf
  refine hv_iast (pn := 90) X d_Md_chain_89 hσ5 ?_
  refine hv_iinc (pn := 93) (i := 6) (v := x6 + 1) (lo' := [some (.ref a0), some (.int x1), some (.int x2), some (.int x3), some (.int x4), some (.int x5), some (.int (x6 + 1)), none]) X d_Md_chain_90 ?_
  refine hv_goto (tgt := 23) X d_Md_chain_93 (by decide) ?_
  cases hf
  exact E
set_option maxHeartbeats 4000000 in
set_option maxRecDepth 100000 in
theorem w_Md_chain_l23 {k : mk_T} (X : hv_X k b_Md_chain y_Md_chain.cls 8 5 113 (some (.int)) y_Md_chain.name) (N : Nat) (a0 : Nat) (x1 : Int32) (x2 : Int32) (x3 : Int32) (x4 : Int32) (x5 : Int32) (σ : ho_H) (x6 : Int32) (r : (ho_H × Int32) ⊕ (ho_H)) (hf : f_Md_chain_l23 k.2.1 N a0 x1 x2 x3 x4 x5 (σ, x6) = some r) (E : sm (fun s => hv_V k s.1 23 [some (.ref a0), some (.int x1), some (.int x2), some (.int x3), some (.int x4), some (.int x5), some (.int s.2), none] []) (fun s => hv_V k s 96 [some (.ref a0), none, none, none, none, none, none, none] []) r) : hv_V k σ 23 [some (.ref a0), some (.int x1), some (.int x2), some (.int x3), some (.int x4), some (.int x5), some (.int x6), none] [] := by
  unfold f_Md_chain_l23 at hf
  try dsimp only at hf
  refine hv_iload (pn := 25) X d_Md_chain_23 ?_
  refine hv_bipush (pn := 27) (v := 20) X d_Md_chain_25 ?_
  refine hv_icmp_ge (pn := 30) (tgt := 96) X d_Md_chain_27 (by decide) (fun hc => ?_) (fun hc => ?_)
  · rw [if_pos hc] at hf
    refine hv_drop (i := 1) (lo' := [some (.ref a0), none, some (.int x2), some (.int x3), some (.int x4), some (.int x5), some (.int x6), none]) ?_
    refine hv_drop (i := 2) (lo' := [some (.ref a0), none, none, some (.int x3), some (.int x4), some (.int x5), some (.int x6), none]) ?_
    refine hv_drop (i := 3) (lo' := [some (.ref a0), none, none, none, some (.int x4), some (.int x5), some (.int x6), none]) ?_
    refine hv_drop (i := 4) (lo' := [some (.ref a0), none, none, none, none, some (.int x5), some (.int x6), none]) ?_
    refine hv_drop (i := 5) (lo' := [some (.ref a0), none, none, none, none, none, some (.int x6), none]) ?_
    refine hv_drop (i := 6) (lo' := [some (.ref a0), none, none, none, none, none, none, none]) ?_
    cases hf
    exact E
  · rw [if_neg hc] at hf
    refine hv_aload_n (pn := 31) X d_Md_chain_30 ?_
    obtain ⟨b3, hb3, hf⟩ := bd_E hf
    refine hv_getR (pn := 34) X d_Md_chain_31 fa_Md_169 hb3 ?_
    refine hv_iload (pn := 36) X d_Md_chain_34 ?_
    refine hv_iload (pn := 38) X d_Md_chain_36 ?_
    refine hv_iconst (pn := 39) (v := 4) X d_Md_chain_38 ?_
    refine hv_icmp_ge (pn := 42) (tgt := 46) X d_Md_chain_39 (by decide) (fun hc => ?_) (fun hc => ?_)
    · rw [if_pos hc] at hf
      refine hv_iload (pn := 48) X d_Md_chain_46 ?_
      refine hv_bipush (pn := 50) (v := 8) X d_Md_chain_48 ?_
      refine hv_icmp_ge (pn := 53) (tgt := 57) X d_Md_chain_50 (by decide) (fun hc => ?_) (fun hc => ?_)
      · rw [if_pos hc] at hf
        refine hv_iload (pn := 59) X d_Md_chain_57 ?_
        refine hv_bipush (pn := 61) (v := 12) X d_Md_chain_59 ?_
        refine hv_icmp_ge (pn := 64) (tgt := 68) X d_Md_chain_61 (by decide) (fun hc => ?_) (fun hc => ?_)
        · rw [if_pos hc] at hf
          refine hv_iload (pn := 70) X d_Md_chain_68 ?_
          refine hv_bipush (pn := 72) (v := 16) X d_Md_chain_70 ?_
          refine hv_icmp_ge (pn := 75) (tgt := 80) X d_Md_chain_72 (by decide) (fun hc => ?_) (fun hc => ?_)
          · rw [if_pos hc] at hf
            refine hv_iload (pn := 82) X d_Md_chain_80 ?_
            exact w_Md_chain_j82_in23 X N σ a0 x1 x2 x3 x4 x5 x6 x5 x6 b3  _ hf E
          · rw [if_neg hc] at hf
            refine hv_iload (pn := 77) X d_Md_chain_75 ?_
            refine hv_goto (tgt := 82) X d_Md_chain_77 (by decide) ?_
            exact w_Md_chain_j82_in23 X N σ a0 x1 x2 x3 x4 x5 x6 x4 x6 b3  _ hf E
        · rw [if_neg hc] at hf
          refine hv_iload_n (pn := 65) X d_Md_chain_64 ?_
          refine hv_goto (tgt := 82) X d_Md_chain_65 (by decide) ?_
          exact w_Md_chain_j82_in23 X N σ a0 x1 x2 x3 x4 x5 x6 x3 x6 b3  _ hf E
      · rw [if_neg hc] at hf
        refine hv_iload_n (pn := 54) X d_Md_chain_53 ?_
        refine hv_goto (tgt := 82) X d_Md_chain_54 (by decide) ?_
        exact w_Md_chain_j82_in23 X N σ a0 x1 x2 x3 x4 x5 x6 x2 x6 b3  _ hf E
    · rw [if_neg hc] at hf
      refine hv_iload_n (pn := 43) X d_Md_chain_42 ?_
      refine hv_goto (tgt := 82) X d_Md_chain_43 (by decide) ?_
      exact w_Md_chain_j82_in23 X N σ a0 x1 x2 x3 x4 x5 x6 x1 x6 b3  _ hf E
set_option maxHeartbeats 4000000 in
set_option maxRecDepth 100000 in
theorem w_Md_chain_l108_in100 {k : mk_T} (X : hv_X k b_Md_chain y_Md_chain.cls 8 5 113 (some (.int)) y_Md_chain.name) (N : Nat) (a0 : Nat) (x6 : Int32) (σ : ho_H) (x7 : Int32) (r : (ho_H × Int32) ⊕ (ho_H)) (hf : f_Md_chain_l108_in100 k.2.1 N a0 x6 (σ, x7) = some r) (E : sm (fun s => hv_V k s.1 108 [some (.ref a0), none, none, none, none, none, some (.int x6), some (.int s.2)] []) (fun s => hv_V k s 150 [some (.ref a0), none, none, none, none, none, some (.int x6), none] []) r) : hv_V k σ 108 [some (.ref a0), none, none, none, none, none, some (.int x6), some (.int x7)] [] := by
  unfold f_Md_chain_l108_in100 at hf
  try dsimp only at hf
  refine hv_iload (pn := 110) X d_Md_chain_108 ?_
  refine hv_bipush (pn := 112) (v := 20) X d_Md_chain_110 ?_
  refine hv_icmp_ge (pn := 115) (tgt := 150) X d_Md_chain_112 (by decide) (fun hc => ?_) (fun hc => ?_)
  · rw [if_pos hc] at hf
    refine hv_drop (i := 7) (lo' := [some (.ref a0), none, none, none, none, none, some (.int x6), none]) ?_
    cases hf
    exact E
  · rw [if_neg hc] at hf
    refine hv_aload_n (pn := 116) X d_Md_chain_115 ?_
    obtain ⟨b7, hb7, hf⟩ := bd_E hf
    refine hv_getR (pn := 119) X d_Md_chain_116 fa_Md_112 hb7 ?_
    refine hv_sipush (pn := 122) (v := 1300) X d_Md_chain_119 ?_
    refine hv_aload_n (pn := 123) X d_Md_chain_122 ?_
    obtain ⟨v8, hv8, hf⟩ := bd_E hf
    refine hv_getI (pn := 126) X d_Md_chain_123 fa_Md_220 hv8 ?_
    refine hv_imul (pn := 127) X d_Md_chain_126 ?_
    refine hv_bipush (pn := 129) (v := 20) X d_Md_chain_127 ?_
    refine hv_iload (pn := 131) X d_Md_chain_129 ?_
    refine hv_imul (pn := 132) X d_Md_chain_131 ?_
    refine hv_iadd (pn := 133) X d_Md_chain_132 ?_
    refine hv_iload (pn := 135) X d_Md_chain_133 ?_
    refine hv_iadd (pn := 136) X d_Md_chain_135 ?_
    refine hv_aload_n (pn := 137) X d_Md_chain_136 ?_
    obtain ⟨b9, hb9, hf⟩ := bd_E hf
    refine hv_getR (pn := 140) X d_Md_chain_137 fa_Md_169 hb9 ?_
    refine hv_iload (pn := 142) X d_Md_chain_140 ?_
    obtain ⟨v10, hv10, hf⟩ := bd_E hf
    refine hv_iald (pn := 143) X d_Md_chain_142 hv10 ?_
    obtain ⟨σ11, hσ11, hf⟩ := bd_E hf
    refine hv_iast (pn := 144) X d_Md_chain_143 hσ11 ?_
    refine hv_iinc (pn := 147) (i := 7) (v := x7 + 1) (lo' := [some (.ref a0), none, none, none, none, none, some (.int x6), some (.int (x7 + 1))]) X d_Md_chain_144 ?_
    refine hv_goto (tgt := 108) X d_Md_chain_147 (by decide) ?_
    cases hf
    exact E
set_option maxHeartbeats 4000000 in
set_option maxRecDepth 100000 in
theorem w_Md_chain_j159_in100 {k : mk_T} (X : hv_X k b_Md_chain y_Md_chain.cls 8 5 113 (some (.int)) y_Md_chain.name) (N : Nat) (σ : ho_H) (a0 : Nat) (x6 : Int32)  (r : (ho_H × Int32) ⊕ (ho_H)) (hf : f_Md_chain_j159_in100 k.2.1 N σ a0 x6 = some r) (E : sm (fun s => hv_V k s.1 100 [some (.ref a0), none, none, none, none, none, some (.int s.2), none] []) (fun s => hv_V k s 165 [some (.ref a0), none, none, none, none, none, none, none] []) r) : hv_V k σ 159 [some (.ref a0), none, none, none, none, none, some (.int x6), none] [] := by
  unfold f_Md_chain_j159_in100 at hf
  refine hv_iinc (pn := 162) (i := 6) (v := x6 + (-1)) (lo' := [some (.ref a0), none, none, none, none, none, some (.int (x6 + (-1))), none]) X d_Md_chain_159 ?_
  refine hv_goto (tgt := 100) X d_Md_chain_162 (by decide) ?_
  cases hf
  exact E
set_option maxHeartbeats 4000000 in
set_option maxRecDepth 100000 in
theorem w_Md_chain_l100 {k : mk_T} (X : hv_X k b_Md_chain y_Md_chain.cls 8 5 113 (some (.int)) y_Md_chain.name) (N : Nat) (a0 : Nat) (σ : ho_H) (x6 : Int32) (r : (ho_H × Int32) ⊕ (ho_H)) (hf : f_Md_chain_l100 k.2.1 N a0 (σ, x6) = some r) (E : sm (fun s => hv_V k s.1 100 [some (.ref a0), none, none, none, none, none, some (.int s.2), none] []) (fun s => hv_V k s 165 [some (.ref a0), none, none, none, none, none, none, none] []) r) : hv_V k σ 100 [some (.ref a0), none, none, none, none, none, some (.int x6), none] [] := by
  unfold f_Md_chain_l100 at hf
  try dsimp only at hf
  refine hv_iload (pn := 102) X d_Md_chain_100 ?_
  refine hv_if_lt (pn := 105) (tgt := 165) X d_Md_chain_102 (by decide) (fun hc => ?_) (fun hc => ?_)
  · rw [if_pos hc] at hf
    refine hv_drop (i := 6) (lo' := [some (.ref a0), none, none, none, none, none, none, none]) ?_
    cases hf
    exact E
  · rw [if_neg hc] at hf
    refine hv_iconst (pn := 106) (v := 0) X d_Md_chain_105 ?_
    refine hv_istore (pn := 108) (i := 7) (lo' := [some (.ref a0), none, none, none, none, none, some (.int x6), some (.int 0)]) X d_Md_chain_106 ?_
    obtain ⟨σ12, he16, hf⟩ := bd_E hf
    refine hv_loop (P := fun s => hv_V k s.1 108 [some (.ref a0), none, none, none, none, none, some (.int x6), some (.int s.2)] []) (Z := fun s => hv_V k s 150 [some (.ref a0), none, none, none, none, none, some (.int x6), none] []) (fun s r h1 h2 => by obtain ⟨σ, x7⟩ := s; exact w_Md_chain_l108_in100 X N a0 x6 σ x7 r h1 h2) N (σ, 0) _ he16 ?_
    try dsimp only at hf ⊢
    refine hv_iload (pn := 152) X d_Md_chain_150 ?_
    refine hv_if_le (pn := 155) (tgt := 159) X d_Md_chain_152 (by decide) (fun hc => ?_) (fun hc => ?_)
    · rw [if_pos hc] at hf
      exact w_Md_chain_j159_in100 X N σ12 a0 x6  _ hf E
    · rw [if_neg hc] at hf
      refine hv_aload_n (pn := 156) X d_Md_chain_155 ?_
      obtain ⟨_, hr13, hf⟩ := bd_E hf
      obtain ⟨σ14, hσ14, hf⟩ := bd_E hf
      obtain ⟨hσ14, mσ14⟩ := ho_cv_E hσ14
      refine hv_callV (pn := 159) X d_Md_chain_156 (c_Md_down _ _ N σ12 a0 _ hσ14) cs_Md_227 q_5_10 rfl qs_Md_down hr13 (by decide) (by decide) mσ14 (Nat.le_of_ble_eq_true rfl) ?_
      exact w_Md_chain_j159_in100 X N σ14 a0 x6  _ hf E
set_option maxHeartbeats 4000000 in
set_option maxRecDepth 100000 in
theorem c_Md_chain (l : Launch) (G : ho_G) (N : Nat) (σ : ho_H) (a0 : Nat) (x1 : Int32) (x2 : Int32) (x3 : Int32) (x4 : Int32) (x5 : Int32) (σ' : ho_H) (r : Int32) (hf : f_Md_chain G N σ a0 x1 x2 x3 x4 x5 = some (σ', r)) : hv_C l G y_Md_chain (Cond.code y_Md_chain b_Md_chain 8 (some (.int)) :: hv_ws) 5 113 [.ref a0, .int x1, .int x2, .int x3, .int x4, .int x5] σ σ' (some (.int r)) := by
  refine hv_met [some (.ref a0), some (.int x1), some (.int x2), some (.int x3), some (.int x4), some (.int x5), none, none] (plainFor_of_name (by decide +kernel)) (by intro v hv; simp at hv; rcases hv with rfl | rfl | rfl | rfl | rfl | rfl <;> rfl) (Nat.le_of_ble_eq_true rfl) rfl ?_
  intro k X hkl hkG E
  subst hkl
  subst hkG
  unfold f_Md_chain at hf
  refine hv_aload_n (pn := 1) X d_Md_chain_0 ?_
  refine hv_iconst (pn := 2) (v := 0) X d_Md_chain_1 ?_
  obtain ⟨σ1, hσ1, hf⟩ := bd_E hf
  refine hv_put (pn := 5) X d_Md_chain_2 fp_Md_189 hσ1 ?_
  refine hv_aload_n (pn := 6) X d_Md_chain_5 ?_
  obtain ⟨v2, hv2, hf⟩ := bd_E hf
  refine hv_getI (pn := 9) X d_Md_chain_6 fa_Md_220 hv2 ?_
  refine hv_bipush (pn := 11) (v := 8) X d_Md_chain_9 ?_
  refine hv_icmp_ne (pn := 14) (tgt := 20) X d_Md_chain_11 (by decide) (fun hc => ?_) (fun hc => ?_)
  · rw [if_pos hc] at hf
    refine hv_iconst (pn := 21) (v := 0) X d_Md_chain_20 ?_
    refine hv_istore (pn := 23) (i := 6) (lo' := [some (.ref a0), some (.int x1), some (.int x2), some (.int x3), some (.int x4), some (.int x5), some (.int 0), none]) X d_Md_chain_21 ?_
    obtain ⟨σ6, he24, hf⟩ := bd_E hf
    refine hv_loop (P := fun s => hv_V k s.1 23 [some (.ref a0), some (.int x1), some (.int x2), some (.int x3), some (.int x4), some (.int x5), some (.int s.2), none] []) (Z := fun s => hv_V k s 96 [some (.ref a0), none, none, none, none, none, none, none] []) (fun s r h1 h2 => by obtain ⟨σ, x6⟩ := s; exact w_Md_chain_l23 X N a0 x1 x2 x3 x4 x5 σ x6 r h1 h2) N (σ1, 0) _ he24 ?_
    try dsimp only at hf ⊢
    refine hv_bipush (pn := 98) (v := 64) X d_Md_chain_96 ?_
    refine hv_istore (pn := 100) (i := 6) (lo' := [some (.ref a0), none, none, none, none, none, some (.int 64), none]) X d_Md_chain_98 ?_
    obtain ⟨σ17, he22, hf⟩ := bd_E hf
    refine hv_loop (P := fun s => hv_V k s.1 100 [some (.ref a0), none, none, none, none, none, some (.int s.2), none] []) (Z := fun s => hv_V k s 165 [some (.ref a0), none, none, none, none, none, none, none] []) (fun s r h1 h2 => by obtain ⟨σ, x6⟩ := s; exact w_Md_chain_l100 X N a0 σ x6 r h1 h2) N (σ6, 64) _ he22 ?_
    try dsimp only at hf ⊢
    refine hv_aload_n (pn := 166) X d_Md_chain_165 ?_
    refine hv_dup (pn := 167) X d_Md_chain_166 rfl ?_
    obtain ⟨v18, hv18, hf⟩ := bd_E hf
    refine hv_getI (pn := 170) X d_Md_chain_167 fa_Md_220 hv18 ?_
    refine hv_iconst (pn := 171) (v := 1) X d_Md_chain_170 ?_
    refine hv_iadd (pn := 172) X d_Md_chain_171 ?_
    obtain ⟨σ19, hσ19, hf⟩ := bd_E hf
    refine hv_put (pn := 175) X d_Md_chain_172 fp_Md_220 hσ19 ?_
    refine hv_aload_n (pn := 176) X d_Md_chain_175 ?_
    obtain ⟨v20, hv20, hf⟩ := bd_E hf
    refine hv_getI (pn := 179) X d_Md_chain_176 fa_Md_220 hv20 ?_
    refine hv_iconst (pn := 180) (v := 1) X d_Md_chain_179 ?_
    refine hv_isub (pn := 181) X d_Md_chain_180 ?_
    cases hf
    exact hv_iret X d_Md_chain_181 E
  · rw [if_neg hc] at hf
    refine hv_aload_n (pn := 15) X d_Md_chain_14 ?_
    refine hv_iconst (pn := 16) (v := 1) X d_Md_chain_15 ?_
    obtain ⟨_, hr25, hf⟩ := bd_E hf
    obtain ⟨σ26, v27, hσ26, hf⟩ := bd2_E hf
    obtain ⟨hσ26, mσ26⟩ := ho_ck_E hσ26
    refine hv_callV (pn := 19) X d_Md_chain_16 (c_Md_fail _ _ N σ1 a0 1 _ _ hσ26) cs_Md_223 q_5_3 rfl qs_Md_fail hr25 (by decide) (by decide) mσ26 (Nat.le_of_ble_eq_true rfl) ?_
    cases hf
    exact hv_iret X d_Md_chain_19 E
set_option maxHeartbeats 4000000 in
set_option maxRecDepth 100000 in
theorem c_Md_tick (l : Launch) (G : ho_G) (N : Nat) (σ : ho_H) (a0 : Nat) (x1 : Int32) (σ' : ho_H) (r : Int32) (hf : f_Md_tick G N σ a0 x1 = some (σ', r)) : hv_C l G y_Md_tick (Cond.code y_Md_tick b_Md_tick 2 (some (.int)) :: hv_ws) 1 22 [.ref a0, .int x1] σ σ' (some (.int r)) := by
  refine hv_met [some (.ref a0), some (.int x1)] (plainFor_of_name (by decide +kernel)) (by intro v hv; simp at hv; rcases hv with rfl | rfl <;> rfl) (Nat.le_of_ble_eq_true rfl) rfl ?_
  intro k X hkl hkG E
  subst hkl
  subst hkG
  unfold f_Md_tick at hf
  refine hv_aload_n (pn := 1) X d_Md_tick_0 ?_
  refine hv_iconst (pn := 2) (v := 0) X d_Md_tick_1 ?_
  obtain ⟨σ1, hσ1, hf⟩ := bd_E hf
  refine hv_put (pn := 5) X d_Md_tick_2 fp_Md_189 hσ1 ?_
  refine hv_iload_n (pn := 6) X d_Md_tick_5 ?_
  refine hv_iconst (pn := 7) (v := 1) X d_Md_tick_6 ?_
  refine hv_ldc (pn := 9) X d_Md_tick_7 q_5_31 ?_
  obtain ⟨v2, hv2, hf⟩ := bd_E hf
  refine hv_callS (pn := 12) X d_Md_tick_9 (c_Md_within _ _ N σ1 x1 1 100000 _ hv2) cs_Md_231 q_5_33 (by decide) (by decide) ⟨Nat.le_refl _, Nat.le_refl _⟩ (Nat.le_of_ble_eq_true rfl) ?_
  refine hv_if_ne (pn := 15) (tgt := 21) X d_Md_tick_12 (by decide) (fun hc => ?_) (fun hc => ?_)
  · rw [if_pos hc] at hf
    refine hv_aload_n (pn := 22) X d_Md_tick_21 ?_
    obtain ⟨v3, hv3, hf⟩ := bd_E hf
    refine hv_getI (pn := 25) X d_Md_tick_22 fa_Md_217 hv3 ?_
    refine hv_iload_n (pn := 26) X d_Md_tick_25 ?_
    refine hv_iadd (pn := 27) X d_Md_tick_26 ?_
    refine hv_aload_n (pn := 28) X d_Md_tick_27 ?_
    obtain ⟨v4, hv4, hf⟩ := bd_E hf
    refine hv_getI (pn := 31) X d_Md_tick_28 fa_Md_183 hv4 ?_
    obtain ⟨_, hz, hf⟩ := bd_E hf
    refine hv_idiv (pn := 32) X d_Md_tick_31 (ho_nz_E hz) ?_
    refine hv_iconst (pn := 33) (v := 1) X d_Md_tick_32 ?_
    refine hv_iadd (pn := 34) X d_Md_tick_33 ?_
    refine hv_sipush (pn := 37) (v := 512) X d_Md_tick_34 ?_
    refine hv_icmp_le (pn := 40) (tgt := 46) X d_Md_tick_37 (by decide) (fun hc => ?_) (fun hc => ?_)
    · rw [if_pos hc] at hf
      refine hv_aload_n (pn := 47) X d_Md_tick_46 ?_
      refine hv_dup (pn := 48) X d_Md_tick_47 rfl ?_
      obtain ⟨v5, hv5, hf⟩ := bd_E hf
      refine hv_getI (pn := 51) X d_Md_tick_48 fa_Md_217 hv5 ?_
      refine hv_iload_n (pn := 52) X d_Md_tick_51 ?_
      refine hv_iadd (pn := 53) X d_Md_tick_52 ?_
      obtain ⟨σ6, hσ6, hf⟩ := bd_E hf
      refine hv_put (pn := 56) X d_Md_tick_53 fp_Md_217 hσ6 ?_
      refine hv_aload_n (pn := 57) X d_Md_tick_56 ?_
      obtain ⟨v7, hv7, hf⟩ := bd_E hf
      refine hv_getI (pn := 60) X d_Md_tick_57 fa_Md_217 hv7 ?_
      cases hf
      exact hv_iret X d_Md_tick_60 E
    · rw [if_neg hc] at hf
      refine hv_aload_n (pn := 41) X d_Md_tick_40 ?_
      refine hv_iconst (pn := 42) (v := 2) X d_Md_tick_41 ?_
      obtain ⟨_, hr8, hf⟩ := bd_E hf
      obtain ⟨σ9, v10, hσ9, hf⟩ := bd2_E hf
      obtain ⟨hσ9, mσ9⟩ := ho_ck_E hσ9
      refine hv_callV (pn := 45) X d_Md_tick_42 (c_Md_fail _ _ N σ1 a0 2 _ _ hσ9) cs_Md_223 q_5_3 rfl qs_Md_fail hr8 (by decide) (by decide) mσ9 (Nat.le_of_ble_eq_true rfl) ?_
      cases hf
      exact hv_iret X d_Md_tick_45 E
  · rw [if_neg hc] at hf
    refine hv_aload_n (pn := 16) X d_Md_tick_15 ?_
    refine hv_iconst (pn := 17) (v := 1) X d_Md_tick_16 ?_
    obtain ⟨_, hr11, hf⟩ := bd_E hf
    obtain ⟨σ12, v13, hσ12, hf⟩ := bd2_E hf
    obtain ⟨hσ12, mσ12⟩ := ho_ck_E hσ12
    refine hv_callV (pn := 20) X d_Md_tick_17 (c_Md_fail _ _ N σ1 a0 1 _ _ hσ12) cs_Md_223 q_5_3 rfl qs_Md_fail hr11 (by decide) (by decide) mσ12 (Nat.le_of_ble_eq_true rfl) ?_
    cases hf
    exact hv_iret X d_Md_tick_20 E
set_option maxHeartbeats 4000000 in
set_option maxRecDepth 100000 in
theorem c_Md_load (l : Launch) (G : ho_G) (N : Nat) (σ : ho_H) (a0 : Nat) (x1 : Int32) (x2 : Int32) (σ' : ho_H) (r : Int32) (hf : f_Md_load G N σ a0 x1 x2 = some (σ', r)) : hv_C l G y_Md_load (Cond.code y_Md_load b_Md_load 4 (some (.int)) :: hv_ws) 1 22 [.ref a0, .int x1, .int x2] σ σ' (some (.int r)) := by
  refine hv_met [some (.ref a0), some (.int x1), some (.int x2), none] (plainFor_of_name (by decide +kernel)) (by intro v hv; simp at hv; rcases hv with rfl | rfl | rfl <;> rfl) (Nat.le_of_ble_eq_true rfl) rfl ?_
  intro k X hkl hkG E
  subst hkl
  subst hkG
  unfold f_Md_load at hf
  refine hv_aload_n (pn := 1) X d_Md_load_0 ?_
  refine hv_iconst (pn := 2) (v := 0) X d_Md_load_1 ?_
  obtain ⟨σ1, hσ1, hf⟩ := bd_E hf
  refine hv_put (pn := 5) X d_Md_load_2 fp_Md_189 hσ1 ?_
  refine hv_iload_n (pn := 6) X d_Md_load_5 ?_
  refine hv_iconst (pn := 7) (v := 0) X d_Md_load_6 ?_
  refine hv_bipush (pn := 9) (v := 7) X d_Md_load_7 ?_
  obtain ⟨v2, hv2, hf⟩ := bd_E hf
  refine hv_callS (pn := 12) X d_Md_load_9 (c_Md_within _ _ N σ1 x1 0 7 _ hv2) cs_Md_231 q_5_33 (by decide) (by decide) ⟨Nat.le_refl _, Nat.le_refl _⟩ (Nat.le_of_ble_eq_true rfl) ?_
  refine hv_if_ne (pn := 15) (tgt := 21) X d_Md_load_12 (by decide) (fun hc => ?_) (fun hc => ?_)
  · rw [if_pos hc] at hf
    refine hv_aload_n (pn := 22) X d_Md_load_21 ?_
    obtain ⟨b3, hb3, hf⟩ := bd_E hf
    refine hv_getR (pn := 25) X d_Md_load_22 fa_Md_109 hb3 ?_
    refine hv_iload_n (pn := 26) X d_Md_load_25 ?_
    obtain ⟨v4, hv4, hf⟩ := bd_E hf
    refine hv_iald (pn := 27) X d_Md_load_26 hv4 ?_
    refine hv_istore_n (pn := 28) (i := 3) (lo' := [some (.ref a0), some (.int x1), some (.int x2), some (.int v4)]) X d_Md_load_27 ?_
    refine hv_aload_n (pn := 29) X d_Md_load_28 ?_
    obtain ⟨b5, hb5, hf⟩ := bd_E hf
    refine hv_getR (pn := 32) X d_Md_load_29 fa_Md_109 hb5 ?_
    refine hv_iload_n (pn := 33) X d_Md_load_32 ?_
    refine hv_iload_n (pn := 34) X d_Md_load_33 ?_
    obtain ⟨σ6, hσ6, hf⟩ := bd_E hf
    refine hv_iast (pn := 35) X d_Md_load_34 hσ6 ?_
    refine hv_iload_n (pn := 36) X d_Md_load_35 ?_
    cases hf
    exact hv_iret X d_Md_load_36 E
  · rw [if_neg hc] at hf
    refine hv_aload_n (pn := 16) X d_Md_load_15 ?_
    refine hv_iconst (pn := 17) (v := 1) X d_Md_load_16 ?_
    obtain ⟨_, hr7, hf⟩ := bd_E hf
    obtain ⟨σ8, v9, hσ8, hf⟩ := bd2_E hf
    obtain ⟨hσ8, mσ8⟩ := ho_ck_E hσ8
    refine hv_callV (pn := 20) X d_Md_load_17 (c_Md_fail _ _ N σ1 a0 1 _ _ hσ8) cs_Md_223 q_5_3 rfl qs_Md_fail hr7 (by decide) (by decide) mσ8 (Nat.le_of_ble_eq_true rfl) ?_
    cases hf
    exact hv_iret X d_Md_load_20 E
set_option maxHeartbeats 4000000 in
set_option maxRecDepth 100000 in
theorem w_Md_digest_l39 {k : mk_T} (X : hv_X k b_Md_digest y_Md_digest.cls 4 3 71 (some (.int)) y_Md_digest.name) (N : Nat) (a0 : Nat) (x1 : Int32) (x2 : Int32) (σ : ho_H) (x3 : Int32) (r : (ho_H × Int32) ⊕ (ho_H)) (hf : f_Md_digest_l39 k.2.1 N a0 x1 x2 (σ, x3) = some r) (E : sm (fun s => hv_V k s.1 39 [some (.ref a0), some (.int x1), some (.int x2), some (.int s.2)] []) (fun s => hv_V k s 70 [some (.ref a0), some (.int x1), some (.int x2), none] []) r) : hv_V k σ 39 [some (.ref a0), some (.int x1), some (.int x2), some (.int x3)] [] := by
  unfold f_Md_digest_l39 at hf
  try dsimp only at hf
  refine hv_iload_n (pn := 40) X d_Md_digest_39 ?_
  refine hv_iload_n (pn := 41) X d_Md_digest_40 ?_
  refine hv_icmp_ge (pn := 44) (tgt := 70) X d_Md_digest_41 (by decide) (fun hc => ?_) (fun hc => ?_)
  · rw [if_pos hc] at hf
    refine hv_drop (i := 3) (lo' := [some (.ref a0), some (.int x1), some (.int x2), none]) ?_
    cases hf
    exact E
  · rw [if_neg hc] at hf
    refine hv_aload_n (pn := 45) X d_Md_digest_44 ?_
    obtain ⟨b4, hb4, hf⟩ := bd_E hf
    refine hv_getR (pn := 48) X d_Md_digest_45 fa_Md_97 hb4 ?_
    refine hv_iload_n (pn := 49) X d_Md_digest_48 ?_
    refine hv_aload_n (pn := 50) X d_Md_digest_49 ?_
    obtain ⟨b5, hb5, hf⟩ := bd_E hf
    refine hv_getR (pn := 53) X d_Md_digest_50 fa_Md_109 hb5 ?_
    refine hv_iload_n (pn := 54) X d_Md_digest_53 ?_
    refine hv_iconst (pn := 55) (v := 4) X d_Md_digest_54 ?_
    refine hv_idiv (pn := 56) X d_Md_digest_55 (by decide) ?_
    obtain ⟨v6, hv6, hf⟩ := bd_E hf
    refine hv_iald (pn := 57) X d_Md_digest_56 hv6 ?_
    refine hv_iload_n (pn := 58) X d_Md_digest_57 ?_
    refine hv_iconst (pn := 59) (v := 4) X d_Md_digest_58 ?_
    refine hv_irem (pn := 60) X d_Md_digest_59 (by decide) ?_
    obtain ⟨v7, hv7, hf⟩ := bd_E hf
    refine hv_callS (pn := 63) X d_Md_digest_60 (c_Md_byteOf _ _ N σ v6 (ho_rm x3 4) _ hv7) cs_Md_211 q_5_6 (by decide) (by decide) ⟨Nat.le_refl _, Nat.le_refl _⟩ (Nat.le_of_ble_eq_true rfl) ?_
    obtain ⟨σ8, hσ8, hf⟩ := bd_E hf
    refine hv_iast (pn := 64) X d_Md_digest_63 hσ8 ?_
    refine hv_iinc (pn := 67) (i := 3) (v := x3 + 1) (lo' := [some (.ref a0), some (.int x1), some (.int x2), some (.int (x3 + 1))]) X d_Md_digest_64 ?_
    refine hv_goto (tgt := 39) X d_Md_digest_67 (by decide) ?_
    cases hf
    exact E
set_option maxHeartbeats 4000000 in
set_option maxRecDepth 100000 in
theorem c_Md_digest (l : Launch) (G : ho_G) (N : Nat) (σ : ho_H) (a0 : Nat) (x1 : Int32) (x2 : Int32) (σ' : ho_H) (r : Int32) (hf : f_Md_digest G N σ a0 x1 x2 = some (σ', r)) : hv_C l G y_Md_digest (Cond.code y_Md_digest b_Md_digest 4 (some (.int)) :: hv_ws) 3 71 [.ref a0, .int x1, .int x2] σ σ' (some (.int r)) := by
  refine hv_met [some (.ref a0), some (.int x1), some (.int x2), none] (plainFor_of_name (by decide +kernel)) (by intro v hv; simp at hv; rcases hv with rfl | rfl | rfl <;> rfl) (Nat.le_of_ble_eq_true rfl) rfl ?_
  intro k X hkl hkG E
  subst hkl
  subst hkG
  unfold f_Md_digest at hf
  refine hv_aload_n (pn := 1) X d_Md_digest_0 ?_
  refine hv_iconst (pn := 2) (v := 0) X d_Md_digest_1 ?_
  obtain ⟨σ1, hσ1, hf⟩ := bd_E hf
  refine hv_put (pn := 5) X d_Md_digest_2 fp_Md_189 hσ1 ?_
  refine hv_iload_n (pn := 6) X d_Md_digest_5 ?_
  refine hv_iconst (pn := 7) (v := 0) X d_Md_digest_6 ?_
  refine hv_bipush (pn := 9) (v := 32) X d_Md_digest_7 ?_
  obtain ⟨v2, hv2, hf⟩ := bd_E hf
  refine hv_callS (pn := 12) X d_Md_digest_9 (c_Md_within _ _ N σ1 x1 0 32 _ hv2) cs_Md_231 q_5_33 (by decide) (by decide) ⟨Nat.le_refl _, Nat.le_refl _⟩ (Nat.le_of_ble_eq_true rfl) ?_
  refine hv_if_ne (pn := 15) (tgt := 21) X d_Md_digest_12 (by decide) (fun hc => ?_) (fun hc => ?_)
  · rw [if_pos hc] at hf
    refine hv_iload_n (pn := 22) X d_Md_digest_21 ?_
    refine hv_iconst (pn := 23) (v := 0) X d_Md_digest_22 ?_
    refine hv_bipush (pn := 25) (v := 7) X d_Md_digest_23 ?_
    obtain ⟨v3, hv3, hf⟩ := bd_E hf
    refine hv_callS (pn := 28) X d_Md_digest_25 (c_Md_within _ _ N σ1 x2 0 7 _ hv3) cs_Md_231 q_5_33 (by decide) (by decide) ⟨Nat.le_refl _, Nat.le_refl _⟩ (Nat.le_of_ble_eq_true rfl) ?_
    refine hv_if_ne (pn := 31) (tgt := 37) X d_Md_digest_28 (by decide) (fun hc => ?_) (fun hc => ?_)
    · rw [if_pos hc] at hf
      refine hv_iconst (pn := 38) (v := 0) X d_Md_digest_37 ?_
      refine hv_istore_n (pn := 39) (i := 3) (lo' := [some (.ref a0), some (.int x1), some (.int x2), some (.int 0)]) X d_Md_digest_38 ?_
      obtain ⟨σ9, he16, hf⟩ := bd_E hf
      refine hv_loop (P := fun s => hv_V k s.1 39 [some (.ref a0), some (.int x1), some (.int x2), some (.int s.2)] []) (Z := fun s => hv_V k s 70 [some (.ref a0), some (.int x1), some (.int x2), none] []) (fun s r h1 h2 => by obtain ⟨σ, x3⟩ := s; exact w_Md_digest_l39 X N a0 x1 x2 σ x3 r h1 h2) N (σ1, 0) _ he16 ?_
      try dsimp only at hf ⊢
      refine hv_aload_n (pn := 71) X d_Md_digest_70 ?_
      refine hv_iload_n (pn := 72) X d_Md_digest_71 ?_
      obtain ⟨σ10, hσ10, hf⟩ := bd_E hf
      refine hv_put (pn := 75) X d_Md_digest_72 fp_Md_195 hσ10 ?_
      refine hv_aload_n (pn := 76) X d_Md_digest_75 ?_
      obtain ⟨_, hr11, hf⟩ := bd_E hf
      obtain ⟨σ12, hσ12, hf⟩ := bd_E hf
      obtain ⟨hσ12, mσ12⟩ := ho_cv_E hσ12
      refine hv_callV (pn := 79) X d_Md_digest_76 (c_Md_digestRow _ _ N σ10 a0 _ hσ12) cs_Md_208 q_5_18 rfl qs_Md_digestRow hr11 (by decide) (by decide) mσ12 (Nat.le_of_ble_eq_true rfl) ?_
      refine hv_aload_n (pn := 80) X d_Md_digest_79 ?_
      obtain ⟨b13, hb13, hf⟩ := bd_E hf
      refine hv_getR (pn := 83) X d_Md_digest_80 fa_Md_91 hb13 ?_
      refine hv_iload_n (pn := 84) X d_Md_digest_83 ?_
      obtain ⟨v14, hv14, hf⟩ := bd_E hf
      refine hv_iald (pn := 85) X d_Md_digest_84 hv14 ?_
      cases hf
      exact hv_iret X d_Md_digest_85 E
    · rw [if_neg hc] at hf
      refine hv_aload_n (pn := 32) X d_Md_digest_31 ?_
      refine hv_iconst (pn := 33) (v := 2) X d_Md_digest_32 ?_
      obtain ⟨_, hr17, hf⟩ := bd_E hf
      obtain ⟨σ18, v19, hσ18, hf⟩ := bd2_E hf
      obtain ⟨hσ18, mσ18⟩ := ho_ck_E hσ18
      refine hv_callV (pn := 36) X d_Md_digest_33 (c_Md_fail _ _ N σ1 a0 2 _ _ hσ18) cs_Md_223 q_5_3 rfl qs_Md_fail hr17 (by decide) (by decide) mσ18 (Nat.le_of_ble_eq_true rfl) ?_
      cases hf
      exact hv_iret X d_Md_digest_36 E
  · rw [if_neg hc] at hf
    refine hv_aload_n (pn := 16) X d_Md_digest_15 ?_
    refine hv_iconst (pn := 17) (v := 1) X d_Md_digest_16 ?_
    obtain ⟨_, hr20, hf⟩ := bd_E hf
    obtain ⟨σ21, v22, hσ21, hf⟩ := bd2_E hf
    obtain ⟨hσ21, mσ21⟩ := ho_ck_E hσ21
    refine hv_callV (pn := 20) X d_Md_digest_17 (c_Md_fail _ _ N σ1 a0 1 _ _ hσ21) cs_Md_223 q_5_3 rfl qs_Md_fail hr20 (by decide) (by decide) mσ21 (Nat.le_of_ble_eq_true rfl) ?_
    cases hf
    exact hv_iret X d_Md_digest_20 E
set_option maxHeartbeats 4000000 in
set_option maxRecDepth 100000 in
theorem w_Md_pack_l8 {k : mk_T} (X : hv_X k b_Md_pack y_Md_pack.cls 7 5 114 (some (.int)) y_Md_pack.name) (N : Nat) (a0 : Nat) (x1 : Int32) (x2 : Int32) (x3 : Int32) (σ : ho_H) (x4 : Int32) (r : (ho_H × Int32) ⊕ (ho_H)) (hf : f_Md_pack_l8 k.2.1 N a0 x1 x2 x3 (σ, x4) = some r) (E : sm (fun s => hv_V k s.1 8 [some (.ref a0), some (.int x1), some (.int x2), some (.int x3), some (.int s.2), none, none] []) (fun s => hv_V k s 33 [some (.ref a0), some (.int x1), some (.int x2), some (.int x3), none, none, none] []) r) : hv_V k σ 8 [some (.ref a0), some (.int x1), some (.int x2), some (.int x3), some (.int x4), none, none] [] := by
  unfold f_Md_pack_l8 at hf
  try dsimp only at hf
  refine hv_iload (pn := 10) X d_Md_pack_8 ?_
  refine hv_iconst (pn := 11) (v := 4) X d_Md_pack_10 ?_
  refine hv_icmp_ge (pn := 14) (tgt := 33) X d_Md_pack_11 (by decide) (fun hc => ?_) (fun hc => ?_)
  · rw [if_pos hc] at hf
    refine hv_drop (i := 4) (lo' := [some (.ref a0), some (.int x1), some (.int x2), some (.int x3), none, none, none]) ?_
    cases hf
    exact E
  · rw [if_neg hc] at hf
    refine hv_aload_n (pn := 15) X d_Md_pack_14 ?_
    obtain ⟨b3, hb3, hf⟩ := bd_E hf
    refine hv_getR (pn := 18) X d_Md_pack_15 fa_Md_166 hb3 ?_
    refine hv_iload (pn := 20) X d_Md_pack_18 ?_
    refine hv_iload_n (pn := 21) X d_Md_pack_20 ?_
    refine hv_iload (pn := 23) X d_Md_pack_21 ?_
    obtain ⟨v4, hv4, hf⟩ := bd_E hf
    refine hv_callS (pn := 26) X d_Md_pack_23 (c_Md_byteOf _ _ N σ x3 x4 _ hv4) cs_Md_211 q_5_6 (by decide) (by decide) ⟨Nat.le_refl _, Nat.le_refl _⟩ (Nat.le_of_ble_eq_true rfl) ?_
    obtain ⟨σ5, hσ5, hf⟩ := bd_E hf
    refine hv_iast (pn := 27) X d_Md_pack_26 hσ5 ?_
    refine hv_iinc (pn := 30) (i := 4) (v := x4 + 1) (lo' := [some (.ref a0), some (.int x1), some (.int x2), some (.int x3), some (.int (x4 + 1)), none, none]) X d_Md_pack_27 ?_
    refine hv_goto (tgt := 8) X d_Md_pack_30 (by decide) ?_
    cases hf
    exact E
set_option maxHeartbeats 4000000 in
set_option maxRecDepth 100000 in
theorem w_Md_pack_l56 {k : mk_T} (X : hv_X k b_Md_pack y_Md_pack.cls 7 5 114 (some (.int)) y_Md_pack.name) (N : Nat) (a0 : Nat) (x2 : Int32) (x3 : Int32) (x4 : Int32) (σ : ho_H) (x5 : Int32) (r : (ho_H × Int32) ⊕ (ho_H)) (hf : f_Md_pack_l56 k.2.1 N a0 x2 x3 x4 (σ, x5) = some r) (E : sm (fun s => hv_V k s.1 56 [some (.ref a0), none, some (.int x2), some (.int x3), some (.int x4), some (.int s.2), none] []) (fun s => hv_V k s 92 [some (.ref a0), none, some (.int x2), some (.int x3), none, none, none] []) r) : hv_V k σ 56 [some (.ref a0), none, some (.int x2), some (.int x3), some (.int x4), some (.int x5), none] [] := by
  unfold f_Md_pack_l56 at hf
  try dsimp only at hf
  refine hv_iload (pn := 58) X d_Md_pack_56 ?_
  refine hv_bipush (pn := 60) (v := 20) X d_Md_pack_58 ?_
  refine hv_icmp_ge (pn := 63) (tgt := 92) X d_Md_pack_60 (by decide) (fun hc => ?_) (fun hc => ?_)
  · rw [if_pos hc] at hf
    refine hv_drop (i := 4) (lo' := [some (.ref a0), none, some (.int x2), some (.int x3), none, some (.int x5), none]) ?_
    refine hv_drop (i := 5) (lo' := [some (.ref a0), none, some (.int x2), some (.int x3), none, none, none]) ?_
    cases hf
    exact E
  · rw [if_neg hc] at hf
    refine hv_aload_n (pn := 64) X d_Md_pack_63 ?_
    obtain ⟨b12, hb12, hf⟩ := bd_E hf
    refine hv_getR (pn := 67) X d_Md_pack_64 fa_Md_169 hb12 ?_
    refine hv_iload (pn := 69) X d_Md_pack_67 ?_
    refine hv_aload_n (pn := 70) X d_Md_pack_69 ?_
    refine hv_iload (pn := 72) X d_Md_pack_70 ?_
    refine hv_iload_n (pn := 73) X d_Md_pack_72 ?_
    refine hv_iconst (pn := 74) (v := 1) X d_Md_pack_73 ?_
    refine hv_isub (pn := 75) X d_Md_pack_74 ?_
    refine hv_bipush (pn := 77) (v := 64) X d_Md_pack_75 ?_
    refine hv_irem (pn := 78) X d_Md_pack_77 (by decide) ?_
    refine hv_iconst (pn := 79) (v := 1) X d_Md_pack_78 ?_
    refine hv_iadd (pn := 80) X d_Md_pack_79 ?_
    refine hv_iload (pn := 82) X d_Md_pack_80 ?_
    obtain ⟨_, hr13, hf⟩ := bd_E hf
    obtain ⟨v14, hv14, hf⟩ := bd_E hf
    refine hv_callV (pn := 85) X d_Md_pack_82 (c_Md_keyAt _ _ N σ a0 x4 ((ho_rm (x3 - 1) 64) + 1) x5 _ hv14) cs_Md_242 q_5_60 rfl qs_Md_keyAt hr13 (by decide) (by decide) ⟨Nat.le_refl _, Nat.le_refl _⟩ (Nat.le_of_ble_eq_true rfl) ?_
    obtain ⟨σ15, hσ15, hf⟩ := bd_E hf
    refine hv_iast (pn := 86) X d_Md_pack_85 hσ15 ?_
    refine hv_iinc (pn := 89) (i := 5) (v := x5 + 1) (lo' := [some (.ref a0), none, some (.int x2), some (.int x3), some (.int x4), some (.int (x5 + 1)), none]) X d_Md_pack_86 ?_
    refine hv_goto (tgt := 56) X d_Md_pack_89 (by decide) ?_
    cases hf
    exact E
set_option maxHeartbeats 4000000 in
set_option maxRecDepth 100000 in
theorem w_Md_pack_l103 {k : mk_T} (X : hv_X k b_Md_pack y_Md_pack.cls 7 5 114 (some (.int)) y_Md_pack.name) (N : Nat) (a0 : Nat) (x2 : Int32) (x3 : Int32) (σ : ho_H) (x5 : Int32) (r : (ho_H × Int32) ⊕ (ho_H)) (hf : f_Md_pack_l103 k.2.1 N a0 x2 x3 (σ, x5) = some r) (E : sm (fun s => hv_V k s.1 103 [some (.ref a0), none, some (.int x2), some (.int x3), none, some (.int s.2), none] []) (fun s => hv_V k s 135 [some (.ref a0), none, some (.int x2), some (.int x3), none, none, none] []) r) : hv_V k σ 103 [some (.ref a0), none, some (.int x2), some (.int x3), none, some (.int x5), none] [] := by
  unfold f_Md_pack_l103 at hf
  try dsimp only at hf
  refine hv_iload (pn := 105) X d_Md_pack_103 ?_
  refine hv_bipush (pn := 107) (v := 10) X d_Md_pack_105 ?_
  refine hv_icmp_ge (pn := 110) (tgt := 135) X d_Md_pack_107 (by decide) (fun hc => ?_) (fun hc => ?_)
  · rw [if_pos hc] at hf
    refine hv_drop (i := 5) (lo' := [some (.ref a0), none, some (.int x2), some (.int x3), none, none, none]) ?_
    cases hf
    exact E
  · rw [if_neg hc] at hf
    refine hv_aload_n (pn := 111) X d_Md_pack_110 ?_
    obtain ⟨b19, hb19, hf⟩ := bd_E hf
    refine hv_getR (pn := 114) X d_Md_pack_111 fa_Md_166 hb19 ?_
    refine hv_bipush (pn := 116) (v := 6) X d_Md_pack_114 ?_
    refine hv_iload_n (pn := 117) X d_Md_pack_116 ?_
    refine hv_iadd (pn := 118) X d_Md_pack_117 ?_
    refine hv_iload (pn := 120) X d_Md_pack_118 ?_
    refine hv_iadd (pn := 121) X d_Md_pack_120 ?_
    refine hv_aload_n (pn := 122) X d_Md_pack_121 ?_
    obtain ⟨b20, hb20, hf⟩ := bd_E hf
    refine hv_getR (pn := 125) X d_Md_pack_122 fa_Md_106 hb20 ?_
    refine hv_iload (pn := 127) X d_Md_pack_125 ?_
    obtain ⟨v21, hv21, hf⟩ := bd_E hf
    refine hv_iald (pn := 128) X d_Md_pack_127 hv21 ?_
    obtain ⟨σ22, hσ22, hf⟩ := bd_E hf
    refine hv_iast (pn := 129) X d_Md_pack_128 hσ22 ?_
    refine hv_iinc (pn := 132) (i := 5) (v := x5 + 1) (lo' := [some (.ref a0), none, some (.int x2), some (.int x3), none, some (.int (x5 + 1)), none]) X d_Md_pack_129 ?_
    refine hv_goto (tgt := 103) X d_Md_pack_132 (by decide) ?_
    cases hf
    exact E
set_option maxHeartbeats 4000000 in
set_option maxRecDepth 100000 in
theorem w_Md_pack_j194_in146 {k : mk_T} (X : hv_X k b_Md_pack y_Md_pack.cls 7 5 114 (some (.int)) y_Md_pack.name) (N : Nat) (σ : ho_H) (a0 : Nat) (x2 : Int32) (x5 : Int32) (x6 : Int32) (y0 : Int32) (y1 : Int32) (c2 : Nat)  (r : (ho_H × Int32) ⊕ (ho_H)) (hf : f_Md_pack_j194_in146 k.2.1 N σ a0 x2 x5 x6 y0 y1 c2 = some r) (E : sm (fun s => hv_V k s.1 146 [some (.ref a0), none, some (.int x2), none, none, some (.int x5), some (.int s.2)] []) (fun s => hv_V k s 201 [some (.ref a0), none, some (.int x2), none, none, none, none] []) r) : hv_V k σ 194 [some (.ref a0), none, some (.int x2), none, none, some (.int x5), some (.int x6)] [.int y0, .int y1, .ref c2] := by
  unfold f_Md_pack_j194_in146 at hf
  obtain ⟨σ29, hσ29, hf⟩ := bd_E hf
  refine hv_iast (pn := 195) X d_Md_pack_194 hσ29 ?_
  refine hv_iinc (pn := 198) (i := 6) (v := x6 + 1) (lo' := [some (.ref a0), none, some (.int x2), none, none, some (.int x5), some (.int (x6 + 1))]) X d_Md_pack_195 ?_
  refine hv_goto (tgt := 146) X d_Md_pack_198 (by decide) ?_
  cases hf
  exact E
set_option maxHeartbeats 4000000 in
set_option maxRecDepth 100000 in
theorem w_Md_pack_l146 {k : mk_T} (X : hv_X k b_Md_pack y_Md_pack.cls 7 5 114 (some (.int)) y_Md_pack.name) (N : Nat) (a0 : Nat) (x2 : Int32) (x5 : Int32) (σ : ho_H) (x6 : Int32) (r : (ho_H × Int32) ⊕ (ho_H)) (hf : f_Md_pack_l146 k.2.1 N a0 x2 x5 (σ, x6) = some r) (E : sm (fun s => hv_V k s.1 146 [some (.ref a0), none, some (.int x2), none, none, some (.int x5), some (.int s.2)] []) (fun s => hv_V k s 201 [some (.ref a0), none, some (.int x2), none, none, none, none] []) r) : hv_V k σ 146 [some (.ref a0), none, some (.int x2), none, none, some (.int x5), some (.int x6)] [] := by
  unfold f_Md_pack_l146 at hf
  try dsimp only at hf
  refine hv_iload (pn := 148) X d_Md_pack_146 ?_
  refine hv_bipush (pn := 150) (v := 20) X d_Md_pack_148 ?_
  refine hv_icmp_ge (pn := 153) (tgt := 201) X d_Md_pack_150 (by decide) (fun hc => ?_) (fun hc => ?_)
  · rw [if_pos hc] at hf
    refine hv_drop (i := 5) (lo' := [some (.ref a0), none, some (.int x2), none, none, none, some (.int x6)]) ?_
    refine hv_drop (i := 6) (lo' := [some (.ref a0), none, some (.int x2), none, none, none, none]) ?_
    cases hf
    exact E
  · rw [if_neg hc] at hf
    refine hv_aload_n (pn := 154) X d_Md_pack_153 ?_
    obtain ⟨b25, hb25, hf⟩ := bd_E hf
    refine hv_getR (pn := 157) X d_Md_pack_154 fa_Md_166 hb25 ?_
    refine hv_bipush (pn := 159) (v := 16) X d_Md_pack_157 ?_
    refine hv_iload_n (pn := 160) X d_Md_pack_159 ?_
    refine hv_iadd (pn := 161) X d_Md_pack_160 ?_
    refine hv_iload (pn := 163) X d_Md_pack_161 ?_
    refine hv_iadd (pn := 164) X d_Md_pack_163 ?_
    refine hv_iload (pn := 166) X d_Md_pack_164 ?_
    refine hv_iconst (pn := 167) (v := 1) X d_Md_pack_166 ?_
    refine hv_icmp_ge (pn := 170) (tgt := 174) X d_Md_pack_167 (by decide) (fun hc => ?_) (fun hc => ?_)
    · rw [if_pos hc] at hf
      refine hv_aload_n (pn := 175) X d_Md_pack_174 ?_
      refine hv_iload (pn := 177) X d_Md_pack_175 ?_
      obtain ⟨v26, hv26, hf⟩ := bd_E hf
      refine hv_callS (pn := 180) X d_Md_pack_177 (c_Md_chainOf _ _ N σ x5 _ hv26) cs_Md_239 q_5_52 (by decide) (by decide) ⟨Nat.le_refl _, Nat.le_refl _⟩ (Nat.le_of_ble_eq_true rfl) ?_
      refine hv_iload (pn := 182) X d_Md_pack_180 ?_
      refine hv_iconst (pn := 183) (v := 1) X d_Md_pack_182 ?_
      refine hv_isub (pn := 184) X d_Md_pack_183 ?_
      refine hv_bipush (pn := 186) (v := 64) X d_Md_pack_184 ?_
      refine hv_irem (pn := 187) X d_Md_pack_186 (by decide) ?_
      refine hv_iconst (pn := 188) (v := 1) X d_Md_pack_187 ?_
      refine hv_iadd (pn := 189) X d_Md_pack_188 ?_
      refine hv_iload (pn := 191) X d_Md_pack_189 ?_
      obtain ⟨_, hr27, hf⟩ := bd_E hf
      obtain ⟨v28, hv28, hf⟩ := bd_E hf
      refine hv_callV (pn := 194) X d_Md_pack_191 (c_Md_keyAt _ _ N σ a0 v26 ((ho_rm (x5 - 1) 64) + 1) x6 _ hv28) cs_Md_242 q_5_60 rfl qs_Md_keyAt hr27 (by decide) (by decide) ⟨Nat.le_refl _, Nat.le_refl _⟩ (Nat.le_of_ble_eq_true rfl) ?_
      exact w_Md_pack_j194_in146 X N σ a0 x2 x5 x6 v28 ((16 + x2) + x6) b25  _ hf E
    · rw [if_neg hc] at hf
      refine hv_iconst (pn := 171) (v := 0) X d_Md_pack_170 ?_
      refine hv_goto (tgt := 194) X d_Md_pack_171 (by decide) ?_
      exact w_Md_pack_j194_in146 X N σ a0 x2 x5 x6 0 ((16 + x2) + x6) b25  _ hf E
set_option maxHeartbeats 4000000 in
set_option maxRecDepth 100000 in
theorem w_Md_pack_l217 {k : mk_T} (X : hv_X k b_Md_pack y_Md_pack.cls 7 5 114 (some (.int)) y_Md_pack.name) (N : Nat) (a0 : Nat) (x2 : Int32) (σ : ho_H) (x6 : Int32) (r : (ho_H × Int32) ⊕ (ho_H)) (hf : f_Md_pack_l217 k.2.1 N a0 x2 (σ, x6) = some r) (E : sm (fun s => hv_V k s.1 217 [some (.ref a0), none, some (.int x2), none, none, none, some (.int s.2)] []) (fun s => hv_V k s 254 [some (.ref a0), none, none, none, none, none, none] []) r) : hv_V k σ 217 [some (.ref a0), none, some (.int x2), none, none, none, some (.int x6)] [] := by
  unfold f_Md_pack_l217 at hf
  try dsimp only at hf
  refine hv_iload (pn := 219) X d_Md_pack_217 ?_
  refine hv_bipush (pn := 221) (v := 36) X d_Md_pack_219 ?_
  refine hv_iload_n (pn := 222) X d_Md_pack_221 ?_
  refine hv_iadd (pn := 223) X d_Md_pack_222 ?_
  refine hv_icmp_ge (pn := 226) (tgt := 254) X d_Md_pack_223 (by decide) (fun hc => ?_) (fun hc => ?_)
  · rw [if_pos hc] at hf
    refine hv_drop (i := 2) (lo' := [some (.ref a0), none, none, none, none, none, some (.int x6)]) ?_
    refine hv_drop (i := 6) (lo' := [some (.ref a0), none, none, none, none, none, none]) ?_
    cases hf
    exact E
  · rw [if_neg hc] at hf
    refine hv_aload_n (pn := 227) X d_Md_pack_226 ?_
    obtain ⟨b34, hb34, hf⟩ := bd_E hf
    refine hv_getR (pn := 230) X d_Md_pack_227 fa_Md_118 hb34 ?_
    refine hv_bipush (pn := 232) (v := 68) X d_Md_pack_230 ?_
    refine hv_aload_n (pn := 233) X d_Md_pack_232 ?_
    obtain ⟨v35, hv35, hf⟩ := bd_E hf
    refine hv_getI (pn := 236) X d_Md_pack_233 fa_Md_249 hv35 ?_
    refine hv_imul (pn := 237) X d_Md_pack_236 ?_
    refine hv_iload (pn := 239) X d_Md_pack_237 ?_
    refine hv_iadd (pn := 240) X d_Md_pack_239 ?_
    refine hv_aload_n (pn := 241) X d_Md_pack_240 ?_
    obtain ⟨b36, hb36, hf⟩ := bd_E hf
    refine hv_getR (pn := 244) X d_Md_pack_241 fa_Md_166 hb36 ?_
    refine hv_iload (pn := 246) X d_Md_pack_244 ?_
    obtain ⟨v37, hv37, hf⟩ := bd_E hf
    refine hv_iald (pn := 247) X d_Md_pack_246 hv37 ?_
    obtain ⟨σ38, hσ38, hf⟩ := bd_E hf
    refine hv_iast (pn := 248) X d_Md_pack_247 hσ38 ?_
    refine hv_iinc (pn := 251) (i := 6) (v := x6 + 1) (lo' := [some (.ref a0), none, some (.int x2), none, none, none, some (.int (x6 + 1))]) X d_Md_pack_248 ?_
    refine hv_goto (tgt := 217) X d_Md_pack_251 (by decide) ?_
    cases hf
    exact E
set_option maxHeartbeats 4000000 in
set_option maxRecDepth 100000 in
theorem c_Md_pack (l : Launch) (G : ho_G) (N : Nat) (σ : ho_H) (a0 : Nat) (x1 : Int32) (x2 : Int32) (σ' : ho_H) (r : Int32) (hf : f_Md_pack G N σ a0 x1 x2 = some (σ', r)) : hv_C l G y_Md_pack (Cond.code y_Md_pack b_Md_pack 7 (some (.int)) :: hv_ws) 5 114 [.ref a0, .int x1, .int x2] σ σ' (some (.int r)) := by
  refine hv_met [some (.ref a0), some (.int x1), some (.int x2), none, none, none, none] (plainFor_of_name (by decide +kernel)) (by intro v hv; simp at hv; rcases hv with rfl | rfl | rfl <;> rfl) (Nat.le_of_ble_eq_true rfl) rfl ?_
  intro k X hkl hkG E
  subst hkl
  subst hkG
  unfold f_Md_pack at hf
  refine hv_aload_n (pn := 1) X d_Md_pack_0 ?_
  obtain ⟨_, hr1, hf⟩ := bd_E hf
  obtain ⟨v2, hv2, hf⟩ := bd_E hf
  refine hv_callV (pn := 4) X d_Md_pack_1 (c_Md_interval _ _ N σ a0 _ hv2) cs_Md_235 q_5_49 rfl qs_Md_interval hr1 (by decide) (by decide) ⟨Nat.le_refl _, Nat.le_refl _⟩ (Nat.le_of_ble_eq_true rfl) ?_
  refine hv_istore_n (pn := 5) (i := 3) (lo' := [some (.ref a0), some (.int x1), some (.int x2), some (.int v2), none, none, none]) X d_Md_pack_4 ?_
  refine hv_iconst (pn := 6) (v := 0) X d_Md_pack_5 ?_
  refine hv_istore (pn := 8) (i := 4) (lo' := [some (.ref a0), some (.int x1), some (.int x2), some (.int v2), some (.int 0), none, none]) X d_Md_pack_6 ?_
  obtain ⟨σ6, he52, hf⟩ := bd_E hf
  refine hv_loop (P := fun s => hv_V k s.1 8 [some (.ref a0), some (.int x1), some (.int x2), some (.int v2), some (.int s.2), none, none] []) (Z := fun s => hv_V k s 33 [some (.ref a0), some (.int x1), some (.int x2), some (.int v2), none, none, none] []) (fun s r h1 h2 => by obtain ⟨σ, x4⟩ := s; exact w_Md_pack_l8 X N a0 x1 x2 v2 σ x4 r h1 h2) N (σ, 0) _ he52 ?_
  try dsimp only at hf ⊢
  refine hv_aload_n (pn := 34) X d_Md_pack_33 ?_
  obtain ⟨b7, hb7, hf⟩ := bd_E hf
  refine hv_getR (pn := 37) X d_Md_pack_34 fa_Md_166 hb7 ?_
  refine hv_iconst (pn := 38) (v := 4) X d_Md_pack_37 ?_
  refine hv_iload_n (pn := 39) X d_Md_pack_38 ?_
  obtain ⟨σ8, hσ8, hf⟩ := bd_E hf
  refine hv_iast (pn := 40) X d_Md_pack_39 hσ8 ?_
  refine hv_aload_n (pn := 41) X d_Md_pack_40 ?_
  obtain ⟨b9, hb9, hf⟩ := bd_E hf
  refine hv_getR (pn := 44) X d_Md_pack_41 fa_Md_166 hb9 ?_
  refine hv_iconst (pn := 45) (v := 5) X d_Md_pack_44 ?_
  refine hv_iload_n (pn := 46) X d_Md_pack_45 ?_
  obtain ⟨σ10, hσ10, hf⟩ := bd_E hf
  refine hv_iast (pn := 47) X d_Md_pack_46 hσ10 ?_
  refine hv_iload_n (pn := 48) X d_Md_pack_47 ?_
  obtain ⟨v11, hv11, hf⟩ := bd_E hf
  refine hv_callS (pn := 51) X d_Md_pack_48 (c_Md_chainOf _ _ N σ10 v2 _ hv11) cs_Md_239 q_5_52 (by decide) (by decide) ⟨Nat.le_refl _, Nat.le_refl _⟩ (Nat.le_of_ble_eq_true rfl) ?_
  refine hv_istore (pn := 53) (i := 4) (lo' := [some (.ref a0), some (.int x1), some (.int x2), some (.int v2), some (.int v11), none, none]) X d_Md_pack_51 ?_
  refine hv_iconst (pn := 54) (v := 0) X d_Md_pack_53 ?_
  refine hv_istore (pn := 56) (i := 5) (lo' := [some (.ref a0), some (.int x1), some (.int x2), some (.int v2), some (.int v11), some (.int 0), none]) X d_Md_pack_54 ?_
  refine hv_drop (i := 1) (lo' := [some (.ref a0), none, some (.int x2), some (.int v2), some (.int v11), some (.int 0), none]) ?_
  obtain ⟨σ16, he50, hf⟩ := bd_E hf
  refine hv_loop (P := fun s => hv_V k s.1 56 [some (.ref a0), none, some (.int x2), some (.int v2), some (.int v11), some (.int s.2), none] []) (Z := fun s => hv_V k s 92 [some (.ref a0), none, some (.int x2), some (.int v2), none, none, none] []) (fun s r h1 h2 => by obtain ⟨σ, x5⟩ := s; exact w_Md_pack_l56 X N a0 x2 v2 v11 σ x5 r h1 h2) N (σ10, 0) _ he50 ?_
  try dsimp only at hf ⊢
  refine hv_aload_n (pn := 93) X d_Md_pack_92 ?_
  refine hv_bipush (pn := 95) (v := 6) X d_Md_pack_93 ?_
  refine hv_iload_n (pn := 96) X d_Md_pack_95 ?_
  refine hv_iadd (pn := 97) X d_Md_pack_96 ?_
  obtain ⟨_, hr17, hf⟩ := bd_E hf
  obtain ⟨σ18, hσ18, hf⟩ := bd_E hf
  obtain ⟨hσ18, mσ18⟩ := ho_cv_E hσ18
  refine hv_callV (pn := 100) X d_Md_pack_97 (c_Md_codeOfCopy _ _ N σ16 a0 (6 + x2) _ hσ18) cs_Md_246 q_5_64 rfl qs_Md_codeOfCopy hr17 (by decide) (by decide) mσ18 (Nat.le_of_ble_eq_true rfl) ?_
  refine hv_iconst (pn := 101) (v := 0) X d_Md_pack_100 ?_
  refine hv_istore (pn := 103) (i := 5) (lo' := [some (.ref a0), none, some (.int x2), some (.int v2), none, some (.int 0), none]) X d_Md_pack_101 ?_
  obtain ⟨σ23, he48, hf⟩ := bd_E hf
  refine hv_loop (P := fun s => hv_V k s.1 103 [some (.ref a0), none, some (.int x2), some (.int v2), none, some (.int s.2), none] []) (Z := fun s => hv_V k s 135 [some (.ref a0), none, some (.int x2), some (.int v2), none, none, none] []) (fun s r h1 h2 => by obtain ⟨σ, x5⟩ := s; exact w_Md_pack_l103 X N a0 x2 v2 σ x5 r h1 h2) N (σ18, 0) _ he48 ?_
  try dsimp only at hf ⊢
  refine hv_iload_n (pn := 136) X d_Md_pack_135 ?_
  refine hv_aload_n (pn := 137) X d_Md_pack_136 ?_
  obtain ⟨v24, hv24, hf⟩ := bd_E hf
  refine hv_getI (pn := 140) X d_Md_pack_137 fa_Md_179 hv24 ?_
  refine hv_isub (pn := 141) X d_Md_pack_140 ?_
  refine hv_istore (pn := 143) (i := 5) (lo' := [some (.ref a0), none, some (.int x2), some (.int v2), none, some (.int (v2 - v24)), none]) X d_Md_pack_141 ?_
  refine hv_iconst (pn := 144) (v := 0) X d_Md_pack_143 ?_
  refine hv_istore (pn := 146) (i := 6) (lo' := [some (.ref a0), none, some (.int x2), some (.int v2), none, some (.int (v2 - v24)), some (.int 0)]) X d_Md_pack_144 ?_
  refine hv_drop (i := 3) (lo' := [some (.ref a0), none, some (.int x2), none, none, some (.int (v2 - v24)), some (.int 0)]) ?_
  obtain ⟨σ30, he46, hf⟩ := bd_E hf
  refine hv_loop (P := fun s => hv_V k s.1 146 [some (.ref a0), none, some (.int x2), none, none, some (.int (v2 - v24)), some (.int s.2)] []) (Z := fun s => hv_V k s 201 [some (.ref a0), none, some (.int x2), none, none, none, none] []) (fun s r h1 h2 => by obtain ⟨σ, x6⟩ := s; exact w_Md_pack_l146 X N a0 x2 (v2 - v24) σ x6 r h1 h2) N (σ23, 0) _ he46 ?_
  try dsimp only at hf ⊢
  refine hv_aload_n (pn := 202) X d_Md_pack_201 ?_
  obtain ⟨b31, hb31, hf⟩ := bd_E hf
  refine hv_getR (pn := 205) X d_Md_pack_202 fa_Md_115 hb31 ?_
  refine hv_aload_n (pn := 206) X d_Md_pack_205 ?_
  obtain ⟨v32, hv32, hf⟩ := bd_E hf
  refine hv_getI (pn := 209) X d_Md_pack_206 fa_Md_249 hv32 ?_
  refine hv_bipush (pn := 211) (v := 36) X d_Md_pack_209 ?_
  refine hv_iload_n (pn := 212) X d_Md_pack_211 ?_
  refine hv_iadd (pn := 213) X d_Md_pack_212 ?_
  obtain ⟨σ33, hσ33, hf⟩ := bd_E hf
  refine hv_iast (pn := 214) X d_Md_pack_213 hσ33 ?_
  refine hv_iconst (pn := 215) (v := 0) X d_Md_pack_214 ?_
  refine hv_istore (pn := 217) (i := 6) (lo' := [some (.ref a0), none, some (.int x2), none, none, none, some (.int 0)]) X d_Md_pack_215 ?_
  obtain ⟨σ39, he44, hf⟩ := bd_E hf
  refine hv_loop (P := fun s => hv_V k s.1 217 [some (.ref a0), none, some (.int x2), none, none, none, some (.int s.2)] []) (Z := fun s => hv_V k s 254 [some (.ref a0), none, none, none, none, none, none] []) (fun s r h1 h2 => by obtain ⟨σ, x6⟩ := s; exact w_Md_pack_l217 X N a0 x2 σ x6 r h1 h2) N (σ33, 0) _ he44 ?_
  try dsimp only at hf ⊢
  refine hv_aload_n (pn := 255) X d_Md_pack_254 ?_
  refine hv_dup (pn := 256) X d_Md_pack_255 rfl ?_
  obtain ⟨v40, hv40, hf⟩ := bd_E hf
  refine hv_getI (pn := 259) X d_Md_pack_256 fa_Md_249 hv40 ?_
  refine hv_iconst (pn := 260) (v := 1) X d_Md_pack_259 ?_
  refine hv_iadd (pn := 261) X d_Md_pack_260 ?_
  obtain ⟨σ41, hσ41, hf⟩ := bd_E hf
  refine hv_put (pn := 264) X d_Md_pack_261 fp_Md_249 hσ41 ?_
  refine hv_aload_n (pn := 265) X d_Md_pack_264 ?_
  obtain ⟨v42, hv42, hf⟩ := bd_E hf
  refine hv_getI (pn := 268) X d_Md_pack_265 fa_Md_249 hv42 ?_
  refine hv_iconst (pn := 269) (v := 1) X d_Md_pack_268 ?_
  refine hv_isub (pn := 270) X d_Md_pack_269 ?_
  cases hf
  exact hv_iret X d_Md_pack_270 E
set_option maxHeartbeats 4000000 in
set_option maxRecDepth 100000 in
theorem w_Md_send_l59 {k : mk_T} (X : hv_X k b_Md_send y_Md_send.cls 3 6 140 (some (.int)) y_Md_send.name) (N : Nat) (a0 : Nat) (x1 : Int32) (σ : ho_H) (x2 : Int32) (r : (ho_H × Int32) ⊕ (ho_H)) (hf : f_Md_send_l59 k.2.1 N a0 x1 (σ, x2) = some r) (E : sm (fun s => hv_V k s.1 59 [some (.ref a0), some (.int x1), some (.int s.2)] []) (fun s => hv_V k s 93 [some (.ref a0), some (.int x1), none] []) r) : hv_V k σ 59 [some (.ref a0), some (.int x1), some (.int x2)] [] := by
  unfold f_Md_send_l59 at hf
  try dsimp only at hf
  refine hv_iload_n (pn := 60) X d_Md_send_59 ?_
  refine hv_iload_n (pn := 61) X d_Md_send_60 ?_
  refine hv_icmp_ge (pn := 64) (tgt := 93) X d_Md_send_61 (by decide) (fun hc => ?_) (fun hc => ?_)
  · rw [if_pos hc] at hf
    refine hv_drop (i := 2) (lo' := [some (.ref a0), some (.int x1), none]) ?_
    cases hf
    exact E
  · rw [if_neg hc] at hf
    refine hv_aload_n (pn := 65) X d_Md_send_64 ?_
    obtain ⟨b8, hb8, hf⟩ := bd_E hf
    refine hv_getR (pn := 68) X d_Md_send_65 fa_Md_166 hb8 ?_
    refine hv_bipush (pn := 70) (v := 6) X d_Md_send_68 ?_
    refine hv_iload_n (pn := 71) X d_Md_send_70 ?_
    refine hv_iadd (pn := 72) X d_Md_send_71 ?_
    refine hv_aload_n (pn := 73) X d_Md_send_72 ?_
    obtain ⟨b9, hb9, hf⟩ := bd_E hf
    refine hv_getR (pn := 76) X d_Md_send_73 fa_Md_109 hb9 ?_
    refine hv_iload_n (pn := 77) X d_Md_send_76 ?_
    refine hv_iconst (pn := 78) (v := 4) X d_Md_send_77 ?_
    refine hv_idiv (pn := 79) X d_Md_send_78 (by decide) ?_
    obtain ⟨v10, hv10, hf⟩ := bd_E hf
    refine hv_iald (pn := 80) X d_Md_send_79 hv10 ?_
    refine hv_iload_n (pn := 81) X d_Md_send_80 ?_
    refine hv_iconst (pn := 82) (v := 4) X d_Md_send_81 ?_
    refine hv_irem (pn := 83) X d_Md_send_82 (by decide) ?_
    obtain ⟨v11, hv11, hf⟩ := bd_E hf
    refine hv_callS (pn := 86) X d_Md_send_83 (c_Md_byteOf _ _ N σ v10 (ho_rm x2 4) _ hv11) cs_Md_211 q_5_6 (by decide) (by decide) ⟨Nat.le_refl _, Nat.le_refl _⟩ (Nat.le_of_ble_eq_true rfl) ?_
    obtain ⟨σ12, hσ12, hf⟩ := bd_E hf
    refine hv_iast (pn := 87) X d_Md_send_86 hσ12 ?_
    refine hv_iinc (pn := 90) (i := 2) (v := x2 + 1) (lo' := [some (.ref a0), some (.int x1), some (.int (x2 + 1))]) X d_Md_send_87 ?_
    refine hv_goto (tgt := 59) X d_Md_send_90 (by decide) ?_
    cases hf
    exact E
set_option maxHeartbeats 4000000 in
set_option maxRecDepth 100000 in
theorem c_Md_send (l : Launch) (G : ho_G) (N : Nat) (σ : ho_H) (a0 : Nat) (x1 : Int32) (σ' : ho_H) (r : Int32) (hf : f_Md_send G N σ a0 x1 = some (σ', r)) : hv_C l G y_Md_send (Cond.code y_Md_send b_Md_send 3 (some (.int)) :: hv_ws) 6 140 [.ref a0, .int x1] σ σ' (some (.int r)) := by
  refine hv_met [some (.ref a0), some (.int x1), none] (plainFor_of_name (by decide +kernel)) (by intro v hv; simp at hv; rcases hv with rfl | rfl <;> rfl) (Nat.le_of_ble_eq_true rfl) rfl ?_
  intro k X hkl hkG E
  subst hkl
  subst hkG
  unfold f_Md_send at hf
  refine hv_aload_n (pn := 1) X d_Md_send_0 ?_
  refine hv_iconst (pn := 2) (v := 0) X d_Md_send_1 ?_
  obtain ⟨σ1, hσ1, hf⟩ := bd_E hf
  refine hv_put (pn := 5) X d_Md_send_2 fp_Md_189 hσ1 ?_
  refine hv_iload_n (pn := 6) X d_Md_send_5 ?_
  refine hv_iconst (pn := 7) (v := 0) X d_Md_send_6 ?_
  refine hv_bipush (pn := 9) (v := 32) X d_Md_send_7 ?_
  obtain ⟨v2, hv2, hf⟩ := bd_E hf
  refine hv_callS (pn := 12) X d_Md_send_9 (c_Md_within _ _ N σ1 x1 0 32 _ hv2) cs_Md_231 q_5_33 (by decide) (by decide) ⟨Nat.le_refl _, Nat.le_refl _⟩ (Nat.le_of_ble_eq_true rfl) ?_
  refine hv_if_ne (pn := 15) (tgt := 21) X d_Md_send_12 (by decide) (fun hc => ?_) (fun hc => ?_)
  · rw [if_pos hc] at hf
    refine hv_aload_n (pn := 22) X d_Md_send_21 ?_
    obtain ⟨_, hr3, hf⟩ := bd_E hf
    obtain ⟨v4, hv4, hf⟩ := bd_E hf
    refine hv_callV (pn := 25) X d_Md_send_22 (c_Md_interval _ _ N σ1 a0 _ hv4) cs_Md_235 q_5_49 rfl qs_Md_interval hr3 (by decide) (by decide) ⟨Nat.le_refl _, Nat.le_refl _⟩ (Nat.le_of_ble_eq_true rfl) ?_
    obtain ⟨v5, hv5, hf⟩ := bd_E hf
    refine hv_callS (pn := 28) X d_Md_send_25 (c_Md_chainOf _ _ N σ1 v4 _ hv5) cs_Md_239 q_5_52 (by decide) (by decide) ⟨Nat.le_refl _, Nat.le_refl _⟩ (Nat.le_of_ble_eq_true rfl) ?_
    refine hv_aload_n (pn := 29) X d_Md_send_28 ?_
    obtain ⟨v6, hv6, hf⟩ := bd_E hf
    refine hv_getI (pn := 32) X d_Md_send_29 fa_Md_220 hv6 ?_
    refine hv_icmp_lt (pn := 35) (tgt := 41) X d_Md_send_32 (by decide) (fun hc => ?_) (fun hc => ?_)
    · rw [if_pos hc] at hf
      refine hv_aload_n (pn := 42) X d_Md_send_41 ?_
      obtain ⟨v7, hv7, hf⟩ := bd_E hf
      refine hv_getI (pn := 45) X d_Md_send_42 fa_Md_249 hv7 ?_
      refine hv_sipush (pn := 48) (v := 200) X d_Md_send_45 ?_
      refine hv_icmp_ne (pn := 51) (tgt := 57) X d_Md_send_48 (by decide) (fun hc => ?_) (fun hc => ?_)
      · rw [if_pos hc] at hf
        refine hv_iconst (pn := 58) (v := 0) X d_Md_send_57 ?_
        refine hv_istore_n (pn := 59) (i := 2) (lo' := [some (.ref a0), some (.int x1), some (.int 0)]) X d_Md_send_58 ?_
        obtain ⟨σ13, he18, hf⟩ := bd_E hf
        refine hv_loop (P := fun s => hv_V k s.1 59 [some (.ref a0), some (.int x1), some (.int s.2)] []) (Z := fun s => hv_V k s 93 [some (.ref a0), some (.int x1), none] []) (fun s r h1 h2 => by obtain ⟨σ, x2⟩ := s; exact w_Md_send_l59 X N a0 x1 σ x2 r h1 h2) N (σ1, 0) _ he18 ?_
        try dsimp only at hf ⊢
        refine hv_aload_n (pn := 94) X d_Md_send_93 ?_
        refine hv_iconst (pn := 95) (v := 0) X d_Md_send_94 ?_
        refine hv_iload_n (pn := 96) X d_Md_send_95 ?_
        obtain ⟨_, hr14, hf⟩ := bd_E hf
        obtain ⟨σ15, v16, hσ15, hf⟩ := bd2_E hf
        obtain ⟨hσ15, mσ15⟩ := ho_ck_E hσ15
        refine hv_callV (pn := 99) X d_Md_send_96 (c_Md_pack _ _ N σ13 a0 0 x1 _ _ hσ15) cs_Md_252 q_5_56 rfl qs_Md_pack hr14 (by decide) (by decide) mσ15 (Nat.le_of_ble_eq_true rfl) ?_
        cases hf
        exact hv_iret X d_Md_send_99 E
      · rw [if_neg hc] at hf
        refine hv_aload_n (pn := 52) X d_Md_send_51 ?_
        refine hv_iconst (pn := 53) (v := 3) X d_Md_send_52 ?_
        obtain ⟨_, hr19, hf⟩ := bd_E hf
        obtain ⟨σ20, v21, hσ20, hf⟩ := bd2_E hf
        obtain ⟨hσ20, mσ20⟩ := ho_ck_E hσ20
        refine hv_callV (pn := 56) X d_Md_send_53 (c_Md_fail _ _ N σ1 a0 3 _ _ hσ20) cs_Md_223 q_5_3 rfl qs_Md_fail hr19 (by decide) (by decide) mσ20 (Nat.le_of_ble_eq_true rfl) ?_
        cases hf
        exact hv_iret X d_Md_send_56 E
    · rw [if_neg hc] at hf
      refine hv_aload_n (pn := 36) X d_Md_send_35 ?_
      refine hv_iconst (pn := 37) (v := 2) X d_Md_send_36 ?_
      obtain ⟨_, hr22, hf⟩ := bd_E hf
      obtain ⟨σ23, v24, hσ23, hf⟩ := bd2_E hf
      obtain ⟨hσ23, mσ23⟩ := ho_ck_E hσ23
      refine hv_callV (pn := 40) X d_Md_send_37 (c_Md_fail _ _ N σ1 a0 2 _ _ hσ23) cs_Md_223 q_5_3 rfl qs_Md_fail hr22 (by decide) (by decide) mσ23 (Nat.le_of_ble_eq_true rfl) ?_
      cases hf
      exact hv_iret X d_Md_send_40 E
  · rw [if_neg hc] at hf
    refine hv_aload_n (pn := 16) X d_Md_send_15 ?_
    refine hv_iconst (pn := 17) (v := 1) X d_Md_send_16 ?_
    obtain ⟨_, hr25, hf⟩ := bd_E hf
    obtain ⟨σ26, v27, hσ26, hf⟩ := bd2_E hf
    obtain ⟨hσ26, mσ26⟩ := ho_ck_E hσ26
    refine hv_callV (pn := 20) X d_Md_send_17 (c_Md_fail _ _ N σ1 a0 1 _ _ hσ26) cs_Md_223 q_5_3 rfl qs_Md_fail hr25 (by decide) (by decide) mσ26 (Nat.le_of_ble_eq_true rfl) ?_
    cases hf
    exact hv_iret X d_Md_send_20 E
set_option maxHeartbeats 4000000 in
set_option maxRecDepth 100000 in
theorem w_Md_root_l47 {k : mk_T} (X : hv_X k b_Md_root y_Md_root.cls 3 6 140 (some (.int)) y_Md_root.name) (N : Nat) (a0 : Nat) (x1 : Int32) (σ : ho_H) (x2 : Int32) (r : (ho_H × Int32) ⊕ (ho_H)) (hf : f_Md_root_l47 k.2.1 N a0 x1 (σ, x2) = some r) (E : sm (fun s => hv_V k s.1 47 [some (.ref a0), some (.int x1), some (.int s.2)] []) (fun s => hv_V k s 77 [some (.ref a0), none, none] []) r) : hv_V k σ 47 [some (.ref a0), some (.int x1), some (.int x2)] [] := by
  unfold f_Md_root_l47 at hf
  try dsimp only at hf
  refine hv_iload_n (pn := 48) X d_Md_root_47 ?_
  refine hv_bipush (pn := 50) (v := 20) X d_Md_root_48 ?_
  refine hv_icmp_ge (pn := 53) (tgt := 77) X d_Md_root_50 (by decide) (fun hc => ?_) (fun hc => ?_)
  · rw [if_pos hc] at hf
    refine hv_drop (i := 1) (lo' := [some (.ref a0), none, some (.int x2)]) ?_
    refine hv_drop (i := 2) (lo' := [some (.ref a0), none, none]) ?_
    cases hf
    exact E
  · rw [if_neg hc] at hf
    refine hv_aload_n (pn := 54) X d_Md_root_53 ?_
    obtain ⟨b7, hb7, hf⟩ := bd_E hf
    refine hv_getR (pn := 57) X d_Md_root_54 fa_Md_166 hb7 ?_
    refine hv_bipush (pn := 59) (v := 6) X d_Md_root_57 ?_
    refine hv_iload_n (pn := 60) X d_Md_root_59 ?_
    refine hv_iadd (pn := 61) X d_Md_root_60 ?_
    refine hv_aload_n (pn := 62) X d_Md_root_61 ?_
    refine hv_iload_n (pn := 63) X d_Md_root_62 ?_
    refine hv_iconst (pn := 64) (v := 1) X d_Md_root_63 ?_
    refine hv_iadd (pn := 65) X d_Md_root_64 ?_
    refine hv_iconst (pn := 66) (v := 0) X d_Md_root_65 ?_
    refine hv_iload_n (pn := 67) X d_Md_root_66 ?_
    obtain ⟨_, hr8, hf⟩ := bd_E hf
    obtain ⟨v9, hv9, hf⟩ := bd_E hf
    refine hv_callV (pn := 70) X d_Md_root_67 (c_Md_keyAt _ _ N σ a0 (x1 + 1) 0 x2 _ hv9) cs_Md_242 q_5_60 rfl qs_Md_keyAt hr8 (by decide) (by decide) ⟨Nat.le_refl _, Nat.le_refl _⟩ (Nat.le_of_ble_eq_true rfl) ?_
    obtain ⟨σ10, hσ10, hf⟩ := bd_E hf
    refine hv_iast (pn := 71) X d_Md_root_70 hσ10 ?_
    refine hv_iinc (pn := 74) (i := 2) (v := x2 + 1) (lo' := [some (.ref a0), some (.int x1), some (.int (x2 + 1))]) X d_Md_root_71 ?_
    refine hv_goto (tgt := 47) X d_Md_root_74 (by decide) ?_
    cases hf
    exact E
set_option maxHeartbeats 4000000 in
set_option maxRecDepth 100000 in
theorem c_Md_root (l : Launch) (G : ho_G) (N : Nat) (σ : ho_H) (a0 : Nat) (σ' : ho_H) (r : Int32) (hf : f_Md_root G N σ a0 = some (σ', r)) : hv_C l G y_Md_root (Cond.code y_Md_root b_Md_root 3 (some (.int)) :: hv_ws) 6 140 [.ref a0] σ σ' (some (.int r)) := by
  refine hv_met [some (.ref a0), none, none] (plainFor_of_name (by decide +kernel)) (by intro v hv; simp at hv; rcases hv with rfl <;> rfl) (Nat.le_of_ble_eq_true rfl) rfl ?_
  intro k X hkl hkG E
  subst hkl
  subst hkG
  unfold f_Md_root at hf
  refine hv_aload_n (pn := 1) X d_Md_root_0 ?_
  refine hv_iconst (pn := 2) (v := 0) X d_Md_root_1 ?_
  obtain ⟨σ1, hσ1, hf⟩ := bd_E hf
  refine hv_put (pn := 5) X d_Md_root_2 fp_Md_189 hσ1 ?_
  refine hv_aload_n (pn := 6) X d_Md_root_5 ?_
  obtain ⟨_, hr2, hf⟩ := bd_E hf
  obtain ⟨v3, hv3, hf⟩ := bd_E hf
  refine hv_callV (pn := 9) X d_Md_root_6 (c_Md_interval _ _ N σ1 a0 _ hv3) cs_Md_235 q_5_49 rfl qs_Md_interval hr2 (by decide) (by decide) ⟨Nat.le_refl _, Nat.le_refl _⟩ (Nat.le_of_ble_eq_true rfl) ?_
  obtain ⟨v4, hv4, hf⟩ := bd_E hf
  refine hv_callS (pn := 12) X d_Md_root_9 (c_Md_chainOf _ _ N σ1 v3 _ hv4) cs_Md_239 q_5_52 (by decide) (by decide) ⟨Nat.le_refl _, Nat.le_refl _⟩ (Nat.le_of_ble_eq_true rfl) ?_
  refine hv_istore_n (pn := 13) (i := 1) (lo' := [some (.ref a0), some (.int v4), none]) X d_Md_root_12 ?_
  refine hv_iload_n (pn := 14) X d_Md_root_13 ?_
  refine hv_iconst (pn := 15) (v := 1) X d_Md_root_14 ?_
  refine hv_iadd (pn := 16) X d_Md_root_15 ?_
  refine hv_aload_n (pn := 17) X d_Md_root_16 ?_
  obtain ⟨v5, hv5, hf⟩ := bd_E hf
  refine hv_getI (pn := 20) X d_Md_root_17 fa_Md_220 hv5 ?_
  refine hv_icmp_lt (pn := 23) (tgt := 29) X d_Md_root_20 (by decide) (fun hc => ?_) (fun hc => ?_)
  · rw [if_pos hc] at hf
    refine hv_aload_n (pn := 30) X d_Md_root_29 ?_
    obtain ⟨v6, hv6, hf⟩ := bd_E hf
    refine hv_getI (pn := 33) X d_Md_root_30 fa_Md_249 hv6 ?_
    refine hv_sipush (pn := 36) (v := 200) X d_Md_root_33 ?_
    refine hv_icmp_ne (pn := 39) (tgt := 45) X d_Md_root_36 (by decide) (fun hc => ?_) (fun hc => ?_)
    · rw [if_pos hc] at hf
      refine hv_iconst (pn := 46) (v := 0) X d_Md_root_45 ?_
      refine hv_istore_n (pn := 47) (i := 2) (lo' := [some (.ref a0), some (.int v4), some (.int 0)]) X d_Md_root_46 ?_
      obtain ⟨σ11, he16, hf⟩ := bd_E hf
      refine hv_loop (P := fun s => hv_V k s.1 47 [some (.ref a0), some (.int v4), some (.int s.2)] []) (Z := fun s => hv_V k s 77 [some (.ref a0), none, none] []) (fun s r h1 h2 => by obtain ⟨σ, x2⟩ := s; exact w_Md_root_l47 X N a0 v4 σ x2 r h1 h2) N (σ1, 0) _ he16 ?_
      try dsimp only at hf ⊢
      refine hv_aload_n (pn := 78) X d_Md_root_77 ?_
      refine hv_iconst (pn := 79) (v := 1) X d_Md_root_78 ?_
      refine hv_bipush (pn := 81) (v := 20) X d_Md_root_79 ?_
      obtain ⟨_, hr12, hf⟩ := bd_E hf
      obtain ⟨σ13, v14, hσ13, hf⟩ := bd2_E hf
      obtain ⟨hσ13, mσ13⟩ := ho_ck_E hσ13
      refine hv_callV (pn := 84) X d_Md_root_81 (c_Md_pack _ _ N σ11 a0 1 20 _ _ hσ13) cs_Md_252 q_5_56 rfl qs_Md_pack hr12 (by decide) (by decide) mσ13 (Nat.le_of_ble_eq_true rfl) ?_
      cases hf
      exact hv_iret X d_Md_root_84 E
    · rw [if_neg hc] at hf
      refine hv_aload_n (pn := 40) X d_Md_root_39 ?_
      refine hv_iconst (pn := 41) (v := 2) X d_Md_root_40 ?_
      obtain ⟨_, hr17, hf⟩ := bd_E hf
      obtain ⟨σ18, v19, hσ18, hf⟩ := bd2_E hf
      obtain ⟨hσ18, mσ18⟩ := ho_ck_E hσ18
      refine hv_callV (pn := 44) X d_Md_root_41 (c_Md_fail _ _ N σ1 a0 2 _ _ hσ18) cs_Md_223 q_5_3 rfl qs_Md_fail hr17 (by decide) (by decide) mσ18 (Nat.le_of_ble_eq_true rfl) ?_
      cases hf
      exact hv_iret X d_Md_root_44 E
  · rw [if_neg hc] at hf
    refine hv_aload_n (pn := 24) X d_Md_root_23 ?_
    refine hv_iconst (pn := 25) (v := 1) X d_Md_root_24 ?_
    obtain ⟨_, hr20, hf⟩ := bd_E hf
    obtain ⟨σ21, v22, hσ21, hf⟩ := bd2_E hf
    obtain ⟨hσ21, mσ21⟩ := ho_ck_E hσ21
    refine hv_callV (pn := 28) X d_Md_root_25 (c_Md_fail _ _ N σ1 a0 1 _ _ hσ21) cs_Md_223 q_5_3 rfl qs_Md_fail hr20 (by decide) (by decide) mσ21 (Nat.le_of_ble_eq_true rfl) ?_
    cases hf
    exact hv_iret X d_Md_root_28 E
set_option maxHeartbeats 4000000 in
set_option maxRecDepth 100000 in
theorem w_Md_packet_j54 {k : mk_T} (X : hv_X k b_Md_packet y_Md_packet.cls 3 1 22 (some (.int)) y_Md_packet.name) (N : Nat) (σ : ho_H) (y0 : Int32)  (r : ho_H × Int32) (hf : f_Md_packet_j54 k.2.1 N σ y0 = some r) (E : hv_end k r.1 (some (.int r.2))) : hv_V k σ 54 [none, none, none] [.int y0] := by
  unfold f_Md_packet_j54 at hf
  cases hf
  exact hv_iret X d_Md_packet_54 E
set_option maxHeartbeats 4000000 in
set_option maxRecDepth 100000 in
theorem w_Md_packet_j49 {k : mk_T} (X : hv_X k b_Md_packet y_Md_packet.cls 3 1 22 (some (.int)) y_Md_packet.name) (N : Nat) (σ : ho_H) (a0 : Nat)  (r : ho_H × Int32) (hf : f_Md_packet_j49 k.2.1 N σ a0 = some r) (E : hv_end k r.1 (some (.int r.2))) : hv_V k σ 49 [some (.ref a0), none, none] [] := by
  unfold f_Md_packet_j49 at hf
  refine hv_aload_n (pn := 50) X d_Md_packet_49 ?_
  refine hv_iconst (pn := 51) (v := 1) X d_Md_packet_50 ?_
  obtain ⟨_, hr4, hf⟩ := bd_E hf
  obtain ⟨σ5, v6, hσ5, hf⟩ := bd2_E hf
  obtain ⟨hσ5, mσ5⟩ := ho_ck_E hσ5
  refine hv_callV (pn := 54) X d_Md_packet_51 (c_Md_fail _ _ N σ a0 1 _ _ hσ5) cs_Md_223 q_5_3 rfl qs_Md_fail hr4 (by decide) (by decide) mσ5 (Nat.le_of_ble_eq_true rfl) ?_
  refine hv_drop (i := 0) (lo' := [none, none, none]) ?_
  exact w_Md_packet_j54 X N σ5 v6  _ hf E
set_option maxHeartbeats 4000000 in
set_option maxRecDepth 100000 in
theorem c_Md_packet (l : Launch) (G : ho_G) (N : Nat) (σ : ho_H) (a0 : Nat) (x1 : Int32) (x2 : Int32) (σ' : ho_H) (r : Int32) (hf : f_Md_packet G N σ a0 x1 x2 = some (σ', r)) : hv_C l G y_Md_packet (Cond.code y_Md_packet b_Md_packet 3 (some (.int)) :: hv_ws) 1 22 [.ref a0, .int x1, .int x2] σ σ' (some (.int r)) := by
  refine hv_met [some (.ref a0), some (.int x1), some (.int x2)] (plainFor_of_name (by decide +kernel)) (by intro v hv; simp at hv; rcases hv with rfl | rfl | rfl <;> rfl) (Nat.le_of_ble_eq_true rfl) rfl ?_
  intro k X hkl hkG E
  subst hkl
  subst hkG
  unfold f_Md_packet at hf
  refine hv_aload_n (pn := 1) X d_Md_packet_0 ?_
  refine hv_iconst (pn := 2) (v := 0) X d_Md_packet_1 ?_
  obtain ⟨σ1, hσ1, hf⟩ := bd_E hf
  refine hv_put (pn := 5) X d_Md_packet_2 fp_Md_189 hσ1 ?_
  refine hv_iload_n (pn := 6) X d_Md_packet_5 ?_
  refine hv_iconst (pn := 7) (v := 0) X d_Md_packet_6 ?_
  refine hv_aload_n (pn := 8) X d_Md_packet_7 ?_
  obtain ⟨v2, hv2, hf⟩ := bd_E hf
  refine hv_getI (pn := 11) X d_Md_packet_8 fa_Md_249 hv2 ?_
  refine hv_iconst (pn := 12) (v := 1) X d_Md_packet_11 ?_
  refine hv_isub (pn := 13) X d_Md_packet_12 ?_
  obtain ⟨v3, hv3, hf⟩ := bd_E hf
  refine hv_callS (pn := 16) X d_Md_packet_13 (c_Md_within _ _ N σ1 x1 0 (v2 - 1) _ hv3) cs_Md_231 q_5_33 (by decide) (by decide) ⟨Nat.le_refl _, Nat.le_refl _⟩ (Nat.le_of_ble_eq_true rfl) ?_
  refine hv_if_eq (pn := 19) (tgt := 49) X d_Md_packet_16 (by decide) (fun hc => ?_) (fun hc => ?_)
  · rw [if_pos hc] at hf
    refine hv_drop (i := 1) (lo' := [some (.ref a0), none, some (.int x2)]) ?_
    refine hv_drop (i := 2) (lo' := [some (.ref a0), none, none]) ?_
    exact w_Md_packet_j49 X N σ1 a0  _ hf E
  · rw [if_neg hc] at hf
    refine hv_iload_n (pn := 20) X d_Md_packet_19 ?_
    refine hv_iconst (pn := 21) (v := 0) X d_Md_packet_20 ?_
    refine hv_aload_n (pn := 22) X d_Md_packet_21 ?_
    obtain ⟨b7, hb7, hf⟩ := bd_E hf
    refine hv_getR (pn := 25) X d_Md_packet_22 fa_Md_115 hb7 ?_
    refine hv_iload_n (pn := 26) X d_Md_packet_25 ?_
    obtain ⟨v8, hv8, hf⟩ := bd_E hf
    refine hv_iald (pn := 27) X d_Md_packet_26 hv8 ?_
    refine hv_iconst (pn := 28) (v := 1) X d_Md_packet_27 ?_
    refine hv_isub (pn := 29) X d_Md_packet_28 ?_
    obtain ⟨v9, hv9, hf⟩ := bd_E hf
    refine hv_callS (pn := 32) X d_Md_packet_29 (c_Md_within _ _ N σ1 x2 0 (v8 - 1) _ hv9) cs_Md_231 q_5_33 (by decide) (by decide) ⟨Nat.le_refl _, Nat.le_refl _⟩ (Nat.le_of_ble_eq_true rfl) ?_
    refine hv_if_eq (pn := 35) (tgt := 49) X d_Md_packet_32 (by decide) (fun hc => ?_) (fun hc => ?_)
    · rw [if_pos hc] at hf
      refine hv_drop (i := 1) (lo' := [some (.ref a0), none, some (.int x2)]) ?_
      refine hv_drop (i := 2) (lo' := [some (.ref a0), none, none]) ?_
      exact w_Md_packet_j49 X N σ1 a0  _ hf E
    · rw [if_neg hc] at hf
      refine hv_aload_n (pn := 36) X d_Md_packet_35 ?_
      obtain ⟨b10, hb10, hf⟩ := bd_E hf
      refine hv_getR (pn := 39) X d_Md_packet_36 fa_Md_118 hb10 ?_
      refine hv_bipush (pn := 41) (v := 68) X d_Md_packet_39 ?_
      refine hv_iload_n (pn := 42) X d_Md_packet_41 ?_
      refine hv_imul (pn := 43) X d_Md_packet_42 ?_
      refine hv_iload_n (pn := 44) X d_Md_packet_43 ?_
      refine hv_iadd (pn := 45) X d_Md_packet_44 ?_
      obtain ⟨v11, hv11, hf⟩ := bd_E hf
      refine hv_iald (pn := 46) X d_Md_packet_45 hv11 ?_
      refine hv_goto (tgt := 54) X d_Md_packet_46 (by decide) ?_
      refine hv_drop (i := 0) (lo' := [none, some (.int x1), some (.int x2)]) ?_
      refine hv_drop (i := 1) (lo' := [none, none, some (.int x2)]) ?_
      refine hv_drop (i := 2) (lo' := [none, none, none]) ?_
      exact w_Md_packet_j54 X N σ1 v11  _ hf E
set_option maxHeartbeats 4000000 in
set_option maxRecDepth 100000 in
theorem w_Md_chainFor_j61 {k : mk_T} (X : hv_X k b_Md_chainFor y_Md_chainFor.cls 4 1 22 (some (.int)) y_Md_chainFor.name) (N : Nat) (σ : ho_H) (y0 : Int32)  (r : Int32) (hf : f_Md_chainFor_j61 k.2.1 N σ y0 = some r) (E : hv_end k σ (some (.int r))) : hv_V k σ 61 [none, none, none, none] [.int y0] := by
  unfold f_Md_chainFor_j61 at hf
  cases hf
  exact hv_iret X d_Md_chainFor_61 E
set_option maxHeartbeats 4000000 in
set_option maxRecDepth 100000 in
theorem w_Md_chainFor_j42 {k : mk_T} (X : hv_X k b_Md_chainFor y_Md_chainFor.cls 4 1 22 (some (.int)) y_Md_chainFor.name) (N : Nat) (σ : ho_H) (a0 : Nat) (x3 : Int32)  (r : Int32) (hf : f_Md_chainFor_j42 k.2.1 N σ a0 x3 = some r) (E : hv_end k σ (some (.int r))) : hv_V k σ 42 [some (.ref a0), none, none, some (.int x3)] [] := by
  unfold f_Md_chainFor_j42 at hf
  refine hv_iload_n (pn := 43) X d_Md_chainFor_42 ?_
  refine hv_iconst (pn := 44) (v := 0) X d_Md_chainFor_43 ?_
  refine hv_aload_n (pn := 45) X d_Md_chainFor_44 ?_
  obtain ⟨v2, hv2, hf⟩ := bd_E hf
  refine hv_getI (pn := 48) X d_Md_chainFor_45 fa_Md_220 hv2 ?_
  refine hv_iconst (pn := 49) (v := 1) X d_Md_chainFor_48 ?_
  refine hv_isub (pn := 50) X d_Md_chainFor_49 ?_
  obtain ⟨v3, hv3, hf⟩ := bd_E hf
  refine hv_callS (pn := 53) X d_Md_chainFor_50 (c_Md_within _ _ N σ x3 0 (v2 - 1) _ hv3) cs_Md_231 q_5_33 (by decide) (by decide) ⟨Nat.le_refl _, Nat.le_refl _⟩ (Nat.le_of_ble_eq_true rfl) ?_
  refine hv_if_eq (pn := 56) (tgt := 60) X d_Md_chainFor_53 (by decide) (fun hc => ?_) (fun hc => ?_)
  · rw [if_pos hc] at hf
    refine hv_iconst (pn := 61) (v := (-1)) X d_Md_chainFor_60 ?_
    refine hv_drop (i := 0) (lo' := [none, none, none, some (.int x3)]) ?_
    refine hv_drop (i := 3) (lo' := [none, none, none, none]) ?_
    exact w_Md_chainFor_j61 X N σ (-1)  _ hf E
  · rw [if_neg hc] at hf
    refine hv_iload_n (pn := 57) X d_Md_chainFor_56 ?_
    refine hv_goto (tgt := 61) X d_Md_chainFor_57 (by decide) ?_
    refine hv_drop (i := 0) (lo' := [none, none, none, some (.int x3)]) ?_
    refine hv_drop (i := 3) (lo' := [none, none, none, none]) ?_
    exact w_Md_chainFor_j61 X N σ x3  _ hf E
set_option maxHeartbeats 4000000 in
set_option maxRecDepth 100000 in
theorem w_Md_chainFor_j18 {k : mk_T} (X : hv_X k b_Md_chainFor y_Md_chainFor.cls 4 1 22 (some (.int)) y_Md_chainFor.name) (N : Nat) (σ : ho_H) (a0 : Nat) (x1 : Int32) (x2 : Int32) (y0 : Int32)  (r : Int32) (hf : f_Md_chainFor_j18 k.2.1 N σ a0 x1 x2 y0 = some r) (E : hv_end k σ (some (.int r))) : hv_V k σ 18 [some (.ref a0), some (.int x1), some (.int x2), none] [.int y0] := by
  unfold f_Md_chainFor_j18 at hf
  refine hv_istore_n (pn := 19) (i := 3) (lo' := [some (.ref a0), some (.int x1), some (.int x2), some (.int y0)]) X d_Md_chainFor_18 ?_
  refine hv_iload_n (pn := 20) X d_Md_chainFor_19 ?_
  refine hv_bipush (pn := 22) (v := 64) X d_Md_chainFor_20 ?_
  refine hv_irem (pn := 23) X d_Md_chainFor_22 (by decide) ?_
  refine hv_if_ne (pn := 26) (tgt := 42) X d_Md_chainFor_23 (by decide) (fun hc => ?_) (fun hc => ?_)
  · rw [if_pos hc] at hf
    refine hv_drop (i := 1) (lo' := [some (.ref a0), none, some (.int x2), some (.int y0)]) ?_
    refine hv_drop (i := 2) (lo' := [some (.ref a0), none, none, some (.int y0)]) ?_
    exact w_Md_chainFor_j42 X N σ a0 y0  _ hf E
  · rw [if_neg hc] at hf
    refine hv_iload_n (pn := 27) X d_Md_chainFor_26 ?_
    refine hv_if_ne (pn := 30) (tgt := 42) X d_Md_chainFor_27 (by decide) (fun hc => ?_) (fun hc => ?_)
    · rw [if_pos hc] at hf
      refine hv_drop (i := 1) (lo' := [some (.ref a0), none, some (.int x2), some (.int y0)]) ?_
      refine hv_drop (i := 2) (lo' := [some (.ref a0), none, none, some (.int y0)]) ?_
      exact w_Md_chainFor_j42 X N σ a0 y0  _ hf E
    · rw [if_neg hc] at hf
      refine hv_iload_n (pn := 31) X d_Md_chainFor_30 ?_
      refine hv_aload_n (pn := 32) X d_Md_chainFor_31 ?_
      obtain ⟨v4, hv4, hf⟩ := bd_E hf
      refine hv_getI (pn := 35) X d_Md_chainFor_32 fa_Md_220 hv4 ?_
      refine hv_icmp_lt (pn := 38) (tgt := 42) X d_Md_chainFor_35 (by decide) (fun hc => ?_) (fun hc => ?_)
      · rw [if_pos hc] at hf
        refine hv_drop (i := 1) (lo' := [some (.ref a0), none, some (.int x2), some (.int y0)]) ?_
        refine hv_drop (i := 2) (lo' := [some (.ref a0), none, none, some (.int y0)]) ?_
        exact w_Md_chainFor_j42 X N σ a0 y0  _ hf E
      · rw [if_neg hc] at hf
        refine hv_iload_n (pn := 39) X d_Md_chainFor_38 ?_
        refine hv_iconst (pn := 40) (v := 1) X d_Md_chainFor_39 ?_
        refine hv_isub (pn := 41) X d_Md_chainFor_40 ?_
        refine hv_istore_n (pn := 42) (i := 3) (lo' := [some (.ref a0), some (.int x1), some (.int x2), some (.int (y0 - 1))]) X d_Md_chainFor_41 ?_
        refine hv_drop (i := 1) (lo' := [some (.ref a0), none, some (.int x2), some (.int (y0 - 1))]) ?_
        refine hv_drop (i := 2) (lo' := [some (.ref a0), none, none, some (.int (y0 - 1))]) ?_
        exact w_Md_chainFor_j42 X N σ a0 (y0 - 1)  _ hf E
set_option maxHeartbeats 4000000 in
set_option maxRecDepth 100000 in
theorem c_Md_chainFor (l : Launch) (G : ho_G) (N : Nat) (σ : ho_H) (a0 : Nat) (x1 : Int32) (x2 : Int32) (r : Int32) (hf : f_Md_chainFor G N σ a0 x1 x2 = some r) : hv_C l G y_Md_chainFor (Cond.code y_Md_chainFor b_Md_chainFor 4 (some (.int)) :: hv_ws) 1 22 [.ref a0, .int x1, .int x2] σ σ (some (.int r)) := by
  refine hv_met [some (.ref a0), some (.int x1), some (.int x2), none] (plainFor_of_name (by decide +kernel)) (by intro v hv; simp at hv; rcases hv with rfl | rfl | rfl <;> rfl) (Nat.le_of_ble_eq_true rfl) rfl ?_
  intro k X hkl hkG E
  subst hkl
  subst hkG
  unfold f_Md_chainFor at hf
  refine hv_iload_n (pn := 1) X d_Md_chainFor_0 ?_
  refine hv_bipush (pn := 3) (v := 64) X d_Md_chainFor_1 ?_
  refine hv_irem (pn := 4) X d_Md_chainFor_3 (by decide) ?_
  refine hv_if_ne (pn := 7) (tgt := 14) X d_Md_chainFor_4 (by decide) (fun hc => ?_) (fun hc => ?_)
  · rw [if_pos hc] at hf
    refine hv_iload_n (pn := 15) X d_Md_chainFor_14 ?_
    obtain ⟨v1, hv1, hf⟩ := bd_E hf
    refine hv_callS (pn := 18) X d_Md_chainFor_15 (c_Md_chainOf _ _ N σ x1 _ hv1) cs_Md_239 q_5_52 (by decide) (by decide) ⟨Nat.le_refl _, Nat.le_refl _⟩ (Nat.le_of_ble_eq_true rfl) ?_
    exact w_Md_chainFor_j18 X N σ a0 x1 x2 v1  _ hf E
  · rw [if_neg hc] at hf
    refine hv_iload_n (pn := 8) X d_Md_chainFor_7 ?_
    refine hv_bipush (pn := 10) (v := 64) X d_Md_chainFor_8 ?_
    refine hv_idiv (pn := 11) X d_Md_chainFor_10 (by decide) ?_
    refine hv_goto (tgt := 18) X d_Md_chainFor_11 (by decide) ?_
    exact w_Md_chainFor_j18 X N σ a0 x1 x2 (x1 / 64)  _ hf E
set_option maxHeartbeats 4000000 in
set_option maxRecDepth 100000 in
theorem w_Md_key_j26 {k : mk_T} (X : hv_X k b_Md_key y_Md_key.cls 4 2 45 (some (.int)) y_Md_key.name) (N : Nat) (σ : ho_H) (a0 : Nat)  (r : ho_H × Int32) (hf : f_Md_key_j26 k.2.1 N σ a0 = some r) (E : hv_end k r.1 (some (.int r.2))) : hv_V k σ 26 [some (.ref a0), none, none, none] [] := by
  unfold f_Md_key_j26 at hf
  refine hv_aload_n (pn := 27) X d_Md_key_26 ?_
  refine hv_iconst (pn := 28) (v := 1) X d_Md_key_27 ?_
  obtain ⟨_, hr3, hf⟩ := bd_E hf
  obtain ⟨σ4, v5, hσ4, hf⟩ := bd2_E hf
  obtain ⟨hσ4, mσ4⟩ := ho_ck_E hσ4
  refine hv_callV (pn := 31) X d_Md_key_28 (c_Md_fail _ _ N σ a0 1 _ _ hσ4) cs_Md_223 q_5_3 rfl qs_Md_fail hr3 (by decide) (by decide) mσ4 (Nat.le_of_ble_eq_true rfl) ?_
  cases hf
  exact hv_iret X d_Md_key_31 E
set_option maxHeartbeats 4000000 in
set_option maxRecDepth 100000 in
theorem w_Md_key_j63 {k : mk_T} (X : hv_X k b_Md_key y_Md_key.cls 4 2 45 (some (.int)) y_Md_key.name) (N : Nat) (σ : ho_H) (y0 : Int32)  (r : ho_H × Int32) (hf : f_Md_key_j63 k.2.1 N σ y0 = some r) (E : hv_end k r.1 (some (.int r.2))) : hv_V k σ 63 [none, none, none, none] [.int y0] := by
  unfold f_Md_key_j63 at hf
  cases hf
  exact hv_iret X d_Md_key_63 E
set_option maxHeartbeats 4000000 in
set_option maxRecDepth 100000 in
theorem c_Md_key (l : Launch) (G : ho_G) (N : Nat) (σ : ho_H) (a0 : Nat) (x1 : Int32) (x2 : Int32) (σ' : ho_H) (r : Int32) (hf : f_Md_key G N σ a0 x1 x2 = some (σ', r)) : hv_C l G y_Md_key (Cond.code y_Md_key b_Md_key 4 (some (.int)) :: hv_ws) 2 45 [.ref a0, .int x1, .int x2] σ σ' (some (.int r)) := by
  refine hv_met [some (.ref a0), some (.int x1), some (.int x2), none] (plainFor_of_name (by decide +kernel)) (by intro v hv; simp at hv; rcases hv with rfl | rfl | rfl <;> rfl) (Nat.le_of_ble_eq_true rfl) rfl ?_
  intro k X hkl hkG E
  subst hkl
  subst hkG
  unfold f_Md_key at hf
  refine hv_aload_n (pn := 1) X d_Md_key_0 ?_
  refine hv_iconst (pn := 2) (v := 0) X d_Md_key_1 ?_
  obtain ⟨σ1, hσ1, hf⟩ := bd_E hf
  refine hv_put (pn := 5) X d_Md_key_2 fp_Md_189 hσ1 ?_
  refine hv_iload_n (pn := 6) X d_Md_key_5 ?_
  refine hv_iconst (pn := 7) (v := 0) X d_Md_key_6 ?_
  refine hv_sipush (pn := 10) (v := 512) X d_Md_key_7 ?_
  obtain ⟨v2, hv2, hf⟩ := bd_E hf
  refine hv_callS (pn := 13) X d_Md_key_10 (c_Md_within _ _ N σ1 x1 0 512 _ hv2) cs_Md_231 q_5_33 (by decide) (by decide) ⟨Nat.le_refl _, Nat.le_refl _⟩ (Nat.le_of_ble_eq_true rfl) ?_
  refine hv_if_eq (pn := 16) (tgt := 26) X d_Md_key_13 (by decide) (fun hc => ?_) (fun hc => ?_)
  · rw [if_pos hc] at hf
    refine hv_drop (i := 1) (lo' := [some (.ref a0), none, some (.int x2), none]) ?_
    refine hv_drop (i := 2) (lo' := [some (.ref a0), none, none, none]) ?_
    exact w_Md_key_j26 X N σ1 a0  _ hf E
  · rw [if_neg hc] at hf
    refine hv_iload_n (pn := 17) X d_Md_key_16 ?_
    refine hv_iconst (pn := 18) (v := 0) X d_Md_key_17 ?_
    refine hv_bipush (pn := 20) (v := 19) X d_Md_key_18 ?_
    obtain ⟨v6, hv6, hf⟩ := bd_E hf
    refine hv_callS (pn := 23) X d_Md_key_20 (c_Md_within _ _ N σ1 x2 0 19 _ hv6) cs_Md_231 q_5_33 (by decide) (by decide) ⟨Nat.le_refl _, Nat.le_refl _⟩ (Nat.le_of_ble_eq_true rfl) ?_
    refine hv_if_ne (pn := 26) (tgt := 32) X d_Md_key_23 (by decide) (fun hc => ?_) (fun hc => ?_)
    · rw [if_pos hc] at hf
      refine hv_aload_n (pn := 33) X d_Md_key_32 ?_
      refine hv_iload_n (pn := 34) X d_Md_key_33 ?_
      refine hv_iconst (pn := 35) (v := 0) X d_Md_key_34 ?_
      obtain ⟨_, hr7, hf⟩ := bd_E hf
      obtain ⟨v8, hv8, hf⟩ := bd_E hf
      refine hv_callV (pn := 38) X d_Md_key_35 (c_Md_chainFor _ _ N σ1 a0 x1 0 _ hv8) cs_Md_255 q_5_80 rfl qs_Md_chainFor hr7 (by decide) (by decide) ⟨Nat.le_refl _, Nat.le_refl _⟩ (Nat.le_of_ble_eq_true rfl) ?_
      refine hv_istore_n (pn := 39) (i := 3) (lo' := [some (.ref a0), some (.int x1), some (.int x2), some (.int v8)]) X d_Md_key_38 ?_
      refine hv_iload_n (pn := 40) X d_Md_key_39 ?_
      refine hv_if_ge (pn := 43) (tgt := 51) X d_Md_key_40 (by decide) (fun hc => ?_) (fun hc => ?_)
      · rw [if_pos hc] at hf
        refine hv_aload_n (pn := 52) X d_Md_key_51 ?_
        refine hv_iload_n (pn := 53) X d_Md_key_52 ?_
        refine hv_iload_n (pn := 54) X d_Md_key_53 ?_
        refine hv_bipush (pn := 56) (v := 64) X d_Md_key_54 ?_
        refine hv_iload_n (pn := 57) X d_Md_key_56 ?_
        refine hv_imul (pn := 58) X d_Md_key_57 ?_
        refine hv_isub (pn := 59) X d_Md_key_58 ?_
        refine hv_iload_n (pn := 60) X d_Md_key_59 ?_
        obtain ⟨_, hr9, hf⟩ := bd_E hf
        obtain ⟨v10, hv10, hf⟩ := bd_E hf
        refine hv_callV (pn := 63) X d_Md_key_60 (c_Md_keyAt _ _ N σ1 a0 v8 (x1 - (64 * v8)) x2 _ hv10) cs_Md_242 q_5_60 rfl qs_Md_keyAt hr9 (by decide) (by decide) ⟨Nat.le_refl _, Nat.le_refl _⟩ (Nat.le_of_ble_eq_true rfl) ?_
        refine hv_drop (i := 0) (lo' := [none, some (.int x1), some (.int x2), some (.int v8)]) ?_
        refine hv_drop (i := 1) (lo' := [none, none, some (.int x2), some (.int v8)]) ?_
        refine hv_drop (i := 2) (lo' := [none, none, none, some (.int v8)]) ?_
        refine hv_drop (i := 3) (lo' := [none, none, none, none]) ?_
        exact w_Md_key_j63 X N σ1 v10  _ hf E
      · rw [if_neg hc] at hf
        refine hv_aload_n (pn := 44) X d_Md_key_43 ?_
        refine hv_iconst (pn := 45) (v := 2) X d_Md_key_44 ?_
        obtain ⟨_, hr11, hf⟩ := bd_E hf
        obtain ⟨σ12, v13, hσ12, hf⟩ := bd2_E hf
        obtain ⟨hσ12, mσ12⟩ := ho_ck_E hσ12
        refine hv_callV (pn := 48) X d_Md_key_45 (c_Md_fail _ _ N σ1 a0 2 _ _ hσ12) cs_Md_223 q_5_3 rfl qs_Md_fail hr11 (by decide) (by decide) mσ12 (Nat.le_of_ble_eq_true rfl) ?_
        refine hv_goto (tgt := 63) X d_Md_key_48 (by decide) ?_
        refine hv_drop (i := 0) (lo' := [none, some (.int x1), some (.int x2), some (.int v8)]) ?_
        refine hv_drop (i := 1) (lo' := [none, none, some (.int x2), some (.int v8)]) ?_
        refine hv_drop (i := 2) (lo' := [none, none, none, some (.int v8)]) ?_
        refine hv_drop (i := 3) (lo' := [none, none, none, none]) ?_
        exact w_Md_key_j63 X N σ12 v13  _ hf E
    · rw [if_neg hc] at hf
      refine hv_drop (i := 1) (lo' := [some (.ref a0), none, some (.int x2), none]) ?_
      refine hv_drop (i := 2) (lo' := [some (.ref a0), none, none, none]) ?_
      exact w_Md_key_j26 X N σ1 a0  _ hf E
set_option maxHeartbeats 4000000 in
set_option maxRecDepth 100000 in
theorem w_Md_join_j26 {k : mk_T} (X : hv_X k b_Md_join y_Md_join.cls 5 2 45 none y_Md_join.name) (N : Nat) (σ : ho_H) (a0 : Nat)  (r : ho_H) (hf : f_Md_join_j26 k.2.1 N σ a0 = some r) (E : hv_end k r none) : hv_V k σ 26 [some (.ref a0), none, none, none, none] [] := by
  unfold f_Md_join_j26 at hf
  refine hv_aload_n (pn := 27) X d_Md_join_26 ?_
  refine hv_iconst (pn := 28) (v := 1) X d_Md_join_27 ?_
  obtain ⟨σ3, hσ3, hf⟩ := bd_E hf
  refine hv_put (pn := 31) X d_Md_join_28 fp_Md_189 hσ3 ?_
  cases hf
  exact hv_vret X d_Md_join_31 E
set_option maxHeartbeats 4000000 in
set_option maxRecDepth 100000 in
theorem w_Md_join_l52 {k : mk_T} (X : hv_X k b_Md_join y_Md_join.cls 5 2 45 none y_Md_join.name) (N : Nat) (a0 : Nat) (x1 : Int32) (x2 : Int32) (x3 : Int32) (σ : ho_H) (x4 : Int32) (r : (ho_H × Int32) ⊕ (ho_H)) (hf : f_Md_join_l52 k.2.1 N a0 x1 x2 x3 (σ, x4) = some r) (E : sm (fun s => hv_V k s.1 52 [some (.ref a0), some (.int x1), some (.int x2), some (.int x3), some (.int s.2)] []) (fun s => hv_V k s 78 [some (.ref a0), some (.int x1), some (.int x2), some (.int x3), none] []) r) : hv_V k σ 52 [some (.ref a0), some (.int x1), some (.int x2), some (.int x3), some (.int x4)] [] := by
  unfold f_Md_join_l52 at hf
  try dsimp only at hf
  refine hv_iload (pn := 54) X d_Md_join_52 ?_
  refine hv_bipush (pn := 56) (v := 8) X d_Md_join_54 ?_
  refine hv_icmp_ge (pn := 59) (tgt := 78) X d_Md_join_56 (by decide) (fun hc => ?_) (fun hc => ?_)
  · rw [if_pos hc] at hf
    refine hv_drop (i := 4) (lo' := [some (.ref a0), some (.int x1), some (.int x2), some (.int x3), none]) ?_
    cases hf
    exact E
  · rw [if_neg hc] at hf
    refine hv_aload_n (pn := 60) X d_Md_join_59 ?_
    obtain ⟨b7, hb7, hf⟩ := bd_E hf
    refine hv_getR (pn := 63) X d_Md_join_60 fa_Md_124 hb7 ?_
    refine hv_bipush (pn := 65) (v := 8) X d_Md_join_63 ?_
    refine hv_iload_n (pn := 66) X d_Md_join_65 ?_
    refine hv_imul (pn := 67) X d_Md_join_66 ?_
    refine hv_iload (pn := 69) X d_Md_join_67 ?_
    refine hv_iadd (pn := 70) X d_Md_join_69 ?_
    refine hv_iconst (pn := 71) (v := 0) X d_Md_join_70 ?_
    obtain ⟨σ8, hσ8, hf⟩ := bd_E hf
    refine hv_zast (pn := 72) X d_Md_join_71 hσ8 ?_
    refine hv_iinc (pn := 75) (i := 4) (v := x4 + 1) (lo' := [some (.ref a0), some (.int x1), some (.int x2), some (.int x3), some (.int (x4 + 1))]) X d_Md_join_72 ?_
    refine hv_goto (tgt := 52) X d_Md_join_75 (by decide) ?_
    cases hf
    exact E
set_option maxHeartbeats 4000000 in
set_option maxRecDepth 100000 in
theorem w_Md_join_l81 {k : mk_T} (X : hv_X k b_Md_join y_Md_join.cls 5 2 45 none y_Md_join.name) (N : Nat) (a0 : Nat) (x1 : Int32) (x2 : Int32) (x3 : Int32) (σ : ho_H) (x4 : Int32) (r : (ho_H × Int32) ⊕ (ho_H)) (hf : f_Md_join_l81 k.2.1 N a0 x1 x2 x3 (σ, x4) = some r) (E : sm (fun s => hv_V k s.1 81 [some (.ref a0), some (.int x1), some (.int x2), some (.int x3), some (.int s.2)] []) (fun s => hv_V k s 107 [some (.ref a0), some (.int x1), some (.int x2), some (.int x3), none] []) r) : hv_V k σ 81 [some (.ref a0), some (.int x1), some (.int x2), some (.int x3), some (.int x4)] [] := by
  unfold f_Md_join_l81 at hf
  try dsimp only at hf
  refine hv_iload (pn := 83) X d_Md_join_81 ?_
  refine hv_bipush (pn := 85) (v := 8) X d_Md_join_83 ?_
  refine hv_icmp_ge (pn := 88) (tgt := 107) X d_Md_join_85 (by decide) (fun hc => ?_) (fun hc => ?_)
  · rw [if_pos hc] at hf
    refine hv_drop (i := 4) (lo' := [some (.ref a0), some (.int x1), some (.int x2), some (.int x3), none]) ?_
    cases hf
    exact E
  · rw [if_neg hc] at hf
    refine hv_aload_n (pn := 89) X d_Md_join_88 ?_
    obtain ⟨b10, hb10, hf⟩ := bd_E hf
    refine hv_getR (pn := 92) X d_Md_join_89 fa_Md_137 hb10 ?_
    refine hv_bipush (pn := 94) (v := 8) X d_Md_join_92 ?_
    refine hv_iload_n (pn := 95) X d_Md_join_94 ?_
    refine hv_imul (pn := 96) X d_Md_join_95 ?_
    refine hv_iload (pn := 98) X d_Md_join_96 ?_
    refine hv_iadd (pn := 99) X d_Md_join_98 ?_
    refine hv_iconst (pn := 100) (v := 0) X d_Md_join_99 ?_
    obtain ⟨σ11, hσ11, hf⟩ := bd_E hf
    refine hv_iast (pn := 101) X d_Md_join_100 hσ11 ?_
    refine hv_iinc (pn := 104) (i := 4) (v := x4 + 1) (lo' := [some (.ref a0), some (.int x1), some (.int x2), some (.int x3), some (.int (x4 + 1))]) X d_Md_join_101 ?_
    refine hv_goto (tgt := 81) X d_Md_join_104 (by decide) ?_
    cases hf
    exact E
set_option maxHeartbeats 4000000 in
set_option maxRecDepth 100000 in
theorem w_Md_join_l160 {k : mk_T} (X : hv_X k b_Md_join y_Md_join.cls 5 2 45 none y_Md_join.name) (N : Nat) (a0 : Nat) (x1 : Int32) (x2 : Int32) (x3 : Int32) (σ : ho_H) (x4 : Int32) (r : (ho_H × Int32) ⊕ (ho_H)) (hf : f_Md_join_l160 k.2.1 N a0 x1 x2 x3 (σ, x4) = some r) (E : sm (fun s => hv_V k s.1 160 [some (.ref a0), some (.int x1), some (.int x2), some (.int x3), some (.int s.2)] []) (fun s => hv_V k s 203 [none, none, none, none, none] []) r) : hv_V k σ 160 [some (.ref a0), some (.int x1), some (.int x2), some (.int x3), some (.int x4)] [] := by
  unfold f_Md_join_l160 at hf
  try dsimp only at hf
  refine hv_iload (pn := 162) X d_Md_join_160 ?_
  refine hv_bipush (pn := 164) (v := 20) X d_Md_join_162 ?_
  refine hv_icmp_ge (pn := 167) (tgt := 203) X d_Md_join_164 (by decide) (fun hc => ?_) (fun hc => ?_)
  · rw [if_pos hc] at hf
    refine hv_drop (i := 0) (lo' := [none, some (.int x1), some (.int x2), some (.int x3), some (.int x4)]) ?_
    refine hv_drop (i := 1) (lo' := [none, none, some (.int x2), some (.int x3), some (.int x4)]) ?_
    refine hv_drop (i := 2) (lo' := [none, none, none, some (.int x3), some (.int x4)]) ?_
    refine hv_drop (i := 3) (lo' := [none, none, none, none, some (.int x4)]) ?_
    refine hv_drop (i := 4) (lo' := [none, none, none, none, none]) ?_
    cases hf
    exact E
  · rw [if_neg hc] at hf
    refine hv_aload_n (pn := 168) X d_Md_join_167 ?_
    obtain ⟨b23, hb23, hf⟩ := bd_E hf
    refine hv_getR (pn := 171) X d_Md_join_168 fa_Md_134 hb23 ?_
    refine hv_bipush (pn := 173) (v := 20) X d_Md_join_171 ?_
    refine hv_bipush (pn := 175) (v := 8) X d_Md_join_173 ?_
    refine hv_iload_n (pn := 176) X d_Md_join_175 ?_
    refine hv_imul (pn := 177) X d_Md_join_176 ?_
    refine hv_iload_n (pn := 178) X d_Md_join_177 ?_
    refine hv_iadd (pn := 179) X d_Md_join_178 ?_
    refine hv_imul (pn := 180) X d_Md_join_179 ?_
    refine hv_iload (pn := 182) X d_Md_join_180 ?_
    refine hv_iadd (pn := 183) X d_Md_join_182 ?_
    refine hv_aload_n (pn := 184) X d_Md_join_183 ?_
    refine hv_iload_n (pn := 185) X d_Md_join_184 ?_
    refine hv_iload_n (pn := 186) X d_Md_join_185 ?_
    refine hv_bipush (pn := 188) (v := 64) X d_Md_join_186 ?_
    refine hv_iload_n (pn := 189) X d_Md_join_188 ?_
    refine hv_imul (pn := 190) X d_Md_join_189 ?_
    refine hv_isub (pn := 191) X d_Md_join_190 ?_
    refine hv_iload (pn := 193) X d_Md_join_191 ?_
    obtain ⟨_, hr24, hf⟩ := bd_E hf
    obtain ⟨v25, hv25, hf⟩ := bd_E hf
    refine hv_callV (pn := 196) X d_Md_join_193 (c_Md_keyAt _ _ N σ a0 x3 (x2 - (64 * x3)) x4 _ hv25) cs_Md_242 q_5_60 rfl qs_Md_keyAt hr24 (by decide) (by decide) ⟨Nat.le_refl _, Nat.le_refl _⟩ (Nat.le_of_ble_eq_true rfl) ?_
    obtain ⟨σ26, hσ26, hf⟩ := bd_E hf
    refine hv_iast (pn := 197) X d_Md_join_196 hσ26 ?_
    refine hv_iinc (pn := 200) (i := 4) (v := x4 + 1) (lo' := [some (.ref a0), some (.int x1), some (.int x2), some (.int x3), some (.int (x4 + 1))]) X d_Md_join_197 ?_
    refine hv_goto (tgt := 160) X d_Md_join_200 (by decide) ?_
    cases hf
    exact E
set_option maxHeartbeats 4000000 in
set_option maxRecDepth 100000 in
theorem c_Md_join (l : Launch) (G : ho_G) (N : Nat) (σ : ho_H) (a0 : Nat) (x1 : Int32) (x2 : Int32) (σ' : ho_H) (hf : f_Md_join G N σ a0 x1 x2 = some σ') : hv_C l G y_Md_join (Cond.code y_Md_join b_Md_join 5 none :: hv_ws) 2 45 [.ref a0, .int x1, .int x2] σ σ' (none) := by
  refine hv_met [some (.ref a0), some (.int x1), some (.int x2), none, none] (plainFor_of_name (by decide +kernel)) (by intro v hv; simp at hv; rcases hv with rfl | rfl | rfl <;> rfl) (Nat.le_of_ble_eq_true rfl) rfl ?_
  intro k X hkl hkG E
  subst hkl
  subst hkG
  unfold f_Md_join at hf
  refine hv_aload_n (pn := 1) X d_Md_join_0 ?_
  refine hv_iconst (pn := 2) (v := 0) X d_Md_join_1 ?_
  obtain ⟨σ1, hσ1, hf⟩ := bd_E hf
  refine hv_put (pn := 5) X d_Md_join_2 fp_Md_189 hσ1 ?_
  refine hv_iload_n (pn := 6) X d_Md_join_5 ?_
  refine hv_iconst (pn := 7) (v := 0) X d_Md_join_6 ?_
  refine hv_bipush (pn := 9) (v := 7) X d_Md_join_7 ?_
  obtain ⟨v2, hv2, hf⟩ := bd_E hf
  refine hv_callS (pn := 12) X d_Md_join_9 (c_Md_within _ _ N σ1 x1 0 7 _ hv2) cs_Md_231 q_5_33 (by decide) (by decide) ⟨Nat.le_refl _, Nat.le_refl _⟩ (Nat.le_of_ble_eq_true rfl) ?_
  refine hv_if_eq (pn := 15) (tgt := 26) X d_Md_join_12 (by decide) (fun hc => ?_) (fun hc => ?_)
  · rw [if_pos hc] at hf
    refine hv_drop (i := 1) (lo' := [some (.ref a0), none, some (.int x2), none, none]) ?_
    refine hv_drop (i := 2) (lo' := [some (.ref a0), none, none, none, none]) ?_
    exact w_Md_join_j26 X N σ1 a0  _ hf E
  · rw [if_neg hc] at hf
    refine hv_iload_n (pn := 16) X d_Md_join_15 ?_
    refine hv_iconst (pn := 17) (v := 0) X d_Md_join_16 ?_
    refine hv_sipush (pn := 20) (v := 511) X d_Md_join_17 ?_
    obtain ⟨v4, hv4, hf⟩ := bd_E hf
    refine hv_callS (pn := 23) X d_Md_join_20 (c_Md_within _ _ N σ1 x2 0 511 _ hv4) cs_Md_231 q_5_33 (by decide) (by decide) ⟨Nat.le_refl _, Nat.le_refl _⟩ (Nat.le_of_ble_eq_true rfl) ?_
    refine hv_if_ne (pn := 26) (tgt := 32) X d_Md_join_23 (by decide) (fun hc => ?_) (fun hc => ?_)
    · rw [if_pos hc] at hf
      refine hv_aload_n (pn := 33) X d_Md_join_32 ?_
      refine hv_iload_n (pn := 34) X d_Md_join_33 ?_
      refine hv_iconst (pn := 35) (v := 1) X d_Md_join_34 ?_
      obtain ⟨_, hr5, hf⟩ := bd_E hf
      obtain ⟨v6, hv6, hf⟩ := bd_E hf
      refine hv_callV (pn := 38) X d_Md_join_35 (c_Md_chainFor _ _ N σ1 a0 x2 1 _ hv6) cs_Md_255 q_5_80 rfl qs_Md_chainFor hr5 (by decide) (by decide) ⟨Nat.le_refl _, Nat.le_refl _⟩ (Nat.le_of_ble_eq_true rfl) ?_
      refine hv_istore_n (pn := 39) (i := 3) (lo' := [some (.ref a0), some (.int x1), some (.int x2), some (.int v6), none]) X d_Md_join_38 ?_
      refine hv_iload_n (pn := 40) X d_Md_join_39 ?_
      refine hv_if_ge (pn := 43) (tgt := 49) X d_Md_join_40 (by decide) (fun hc => ?_) (fun hc => ?_)
      · rw [if_pos hc] at hf
        refine hv_iconst (pn := 50) (v := 0) X d_Md_join_49 ?_
        refine hv_istore (pn := 52) (i := 4) (lo' := [some (.ref a0), some (.int x1), some (.int x2), some (.int v6), some (.int 0)]) X d_Md_join_50 ?_
        obtain ⟨σ9, he33, hf⟩ := bd_E hf
        refine hv_loop (P := fun s => hv_V k s.1 52 [some (.ref a0), some (.int x1), some (.int x2), some (.int v6), some (.int s.2)] []) (Z := fun s => hv_V k s 78 [some (.ref a0), some (.int x1), some (.int x2), some (.int v6), none] []) (fun s r h1 h2 => by obtain ⟨σ, x4⟩ := s; exact w_Md_join_l52 X N a0 x1 x2 v6 σ x4 r h1 h2) N (σ1, 0) _ he33 ?_
        try dsimp only at hf ⊢
        refine hv_iconst (pn := 79) (v := 0) X d_Md_join_78 ?_
        refine hv_istore (pn := 81) (i := 4) (lo' := [some (.ref a0), some (.int x1), some (.int x2), some (.int v6), some (.int 0)]) X d_Md_join_79 ?_
        obtain ⟨σ12, he31, hf⟩ := bd_E hf
        refine hv_loop (P := fun s => hv_V k s.1 81 [some (.ref a0), some (.int x1), some (.int x2), some (.int v6), some (.int s.2)] []) (Z := fun s => hv_V k s 107 [some (.ref a0), some (.int x1), some (.int x2), some (.int v6), none] []) (fun s r h1 h2 => by obtain ⟨σ, x4⟩ := s; exact w_Md_join_l81 X N a0 x1 x2 v6 σ x4 r h1 h2) N (σ9, 0) _ he31 ?_
        try dsimp only at hf ⊢
        refine hv_aload_n (pn := 108) X d_Md_join_107 ?_
        obtain ⟨b13, hb13, hf⟩ := bd_E hf
        refine hv_getR (pn := 111) X d_Md_join_108 fa_Md_140 hb13 ?_
        refine hv_iload_n (pn := 112) X d_Md_join_111 ?_
        refine hv_iconst (pn := 113) (v := 0) X d_Md_join_112 ?_
        obtain ⟨σ14, hσ14, hf⟩ := bd_E hf
        refine hv_iast (pn := 114) X d_Md_join_113 hσ14 ?_
        refine hv_aload_n (pn := 115) X d_Md_join_114 ?_
        obtain ⟨b15, hb15, hf⟩ := bd_E hf
        refine hv_getR (pn := 118) X d_Md_join_115 fa_Md_149 hb15 ?_
        refine hv_iload_n (pn := 119) X d_Md_join_118 ?_
        refine hv_iconst (pn := 120) (v := 0) X d_Md_join_119 ?_
        obtain ⟨σ16, hσ16, hf⟩ := bd_E hf
        refine hv_iast (pn := 121) X d_Md_join_120 hσ16 ?_
        refine hv_aload_n (pn := 122) X d_Md_join_121 ?_
        obtain ⟨b17, hb17, hf⟩ := bd_E hf
        refine hv_getR (pn := 125) X d_Md_join_122 fa_Md_124 hb17 ?_
        refine hv_bipush (pn := 127) (v := 8) X d_Md_join_125 ?_
        refine hv_iload_n (pn := 128) X d_Md_join_127 ?_
        refine hv_imul (pn := 129) X d_Md_join_128 ?_
        refine hv_iload_n (pn := 130) X d_Md_join_129 ?_
        refine hv_iadd (pn := 131) X d_Md_join_130 ?_
        refine hv_iconst (pn := 132) (v := 1) X d_Md_join_131 ?_
        obtain ⟨σ18, hσ18, hf⟩ := bd_E hf
        refine hv_zast (pn := 133) X d_Md_join_132 hσ18 ?_
        refine hv_aload_n (pn := 134) X d_Md_join_133 ?_
        obtain ⟨b19, hb19, hf⟩ := bd_E hf
        refine hv_getR (pn := 137) X d_Md_join_134 fa_Md_128 hb19 ?_
        refine hv_bipush (pn := 139) (v := 8) X d_Md_join_137 ?_
        refine hv_iload_n (pn := 140) X d_Md_join_139 ?_
        refine hv_imul (pn := 141) X d_Md_join_140 ?_
        refine hv_iload_n (pn := 142) X d_Md_join_141 ?_
        refine hv_iadd (pn := 143) X d_Md_join_142 ?_
        refine hv_iload_n (pn := 144) X d_Md_join_143 ?_
        obtain ⟨σ20, hσ20, hf⟩ := bd_E hf
        refine hv_iast (pn := 145) X d_Md_join_144 hσ20 ?_
        refine hv_aload_n (pn := 146) X d_Md_join_145 ?_
        obtain ⟨b21, hb21, hf⟩ := bd_E hf
        refine hv_getR (pn := 149) X d_Md_join_146 fa_Md_131 hb21 ?_
        refine hv_bipush (pn := 151) (v := 8) X d_Md_join_149 ?_
        refine hv_iload_n (pn := 152) X d_Md_join_151 ?_
        refine hv_imul (pn := 153) X d_Md_join_152 ?_
        refine hv_iload_n (pn := 154) X d_Md_join_153 ?_
        refine hv_iadd (pn := 155) X d_Md_join_154 ?_
        refine hv_iload_n (pn := 156) X d_Md_join_155 ?_
        obtain ⟨σ22, hσ22, hf⟩ := bd_E hf
        refine hv_iast (pn := 157) X d_Md_join_156 hσ22 ?_
        refine hv_iconst (pn := 158) (v := 0) X d_Md_join_157 ?_
        refine hv_istore (pn := 160) (i := 4) (lo' := [some (.ref a0), some (.int x1), some (.int x2), some (.int v6), some (.int 0)]) X d_Md_join_158 ?_
        obtain ⟨σ27, he29, hf⟩ := bd_E hf
        refine hv_loop (P := fun s => hv_V k s.1 160 [some (.ref a0), some (.int x1), some (.int x2), some (.int v6), some (.int s.2)] []) (Z := fun s => hv_V k s 203 [none, none, none, none, none] []) (fun s r h1 h2 => by obtain ⟨σ, x4⟩ := s; exact w_Md_join_l160 X N a0 x1 x2 v6 σ x4 r h1 h2) N (σ22, 0) _ he29 ?_
        try dsimp only at hf ⊢
        cases hf
        exact hv_vret X d_Md_join_203 E
      · rw [if_neg hc] at hf
        refine hv_aload_n (pn := 44) X d_Md_join_43 ?_
        refine hv_iconst (pn := 45) (v := 2) X d_Md_join_44 ?_
        obtain ⟨σ34, hσ34, hf⟩ := bd_E hf
        refine hv_put (pn := 48) X d_Md_join_45 fp_Md_189 hσ34 ?_
        cases hf
        exact hv_vret X d_Md_join_48 E
    · rw [if_neg hc] at hf
      refine hv_drop (i := 1) (lo' := [some (.ref a0), none, some (.int x2), none, none]) ?_
      refine hv_drop (i := 2) (lo' := [some (.ref a0), none, none, none, none]) ?_
      exact w_Md_join_j26 X N σ1 a0  _ hf E
set_option maxHeartbeats 4000000 in
set_option maxRecDepth 100000 in
theorem c_Md_drift (l : Launch) (G : ho_G) (N : Nat) (σ : ho_H) (a0 : Nat) (x1 : Int32) (x2 : Int32) (σ' : ho_H) (r : Int32) (hf : f_Md_drift G N σ a0 x1 x2 = some (σ', r)) : hv_C l G y_Md_drift (Cond.code y_Md_drift b_Md_drift 4 (some (.int)) :: hv_ws) 1 22 [.ref a0, .int x1, .int x2] σ σ' (some (.int r)) := by
  refine hv_met [some (.ref a0), some (.int x1), some (.int x2), none] (plainFor_of_name (by decide +kernel)) (by intro v hv; simp at hv; rcases hv with rfl | rfl | rfl <;> rfl) (Nat.le_of_ble_eq_true rfl) rfl ?_
  intro k X hkl hkG E
  subst hkl
  subst hkG
  unfold f_Md_drift at hf
  refine hv_aload_n (pn := 1) X d_Md_drift_0 ?_
  refine hv_iconst (pn := 2) (v := 0) X d_Md_drift_1 ?_
  obtain ⟨σ1, hσ1, hf⟩ := bd_E hf
  refine hv_put (pn := 5) X d_Md_drift_2 fp_Md_189 hσ1 ?_
  refine hv_iload_n (pn := 6) X d_Md_drift_5 ?_
  refine hv_iconst (pn := 7) (v := 0) X d_Md_drift_6 ?_
  refine hv_bipush (pn := 9) (v := 7) X d_Md_drift_7 ?_
  obtain ⟨v2, hv2, hf⟩ := bd_E hf
  refine hv_callS (pn := 12) X d_Md_drift_9 (c_Md_within _ _ N σ1 x1 0 7 _ hv2) cs_Md_231 q_5_33 (by decide) (by decide) ⟨Nat.le_refl _, Nat.le_refl _⟩ (Nat.le_of_ble_eq_true rfl) ?_
  refine hv_if_ne (pn := 15) (tgt := 21) X d_Md_drift_12 (by decide) (fun hc => ?_) (fun hc => ?_)
  · rw [if_pos hc] at hf
    refine hv_iload_n (pn := 22) X d_Md_drift_21 ?_
    refine hv_sipush (pn := 25) (v := (-10000)) X d_Md_drift_22 ?_
    refine hv_sipush (pn := 28) (v := 10000) X d_Md_drift_25 ?_
    obtain ⟨v3, hv3, hf⟩ := bd_E hf
    refine hv_callS (pn := 31) X d_Md_drift_28 (c_Md_within _ _ N σ1 x2 (-10000) 10000 _ hv3) cs_Md_231 q_5_33 (by decide) (by decide) ⟨Nat.le_refl _, Nat.le_refl _⟩ (Nat.le_of_ble_eq_true rfl) ?_
    refine hv_if_ne (pn := 34) (tgt := 40) X d_Md_drift_31 (by decide) (fun hc => ?_) (fun hc => ?_)
    · rw [if_pos hc] at hf
      refine hv_aload_n (pn := 41) X d_Md_drift_40 ?_
      obtain ⟨b4, hb4, hf⟩ := bd_E hf
      refine hv_getR (pn := 44) X d_Md_drift_41 fa_Md_121 hb4 ?_
      refine hv_iload_n (pn := 45) X d_Md_drift_44 ?_
      obtain ⟨v5, hv5, hf⟩ := bd_E hf
      refine hv_iald (pn := 46) X d_Md_drift_45 hv5 ?_
      refine hv_istore_n (pn := 47) (i := 3) (lo' := [some (.ref a0), some (.int x1), some (.int x2), some (.int v5)]) X d_Md_drift_46 ?_
      refine hv_aload_n (pn := 48) X d_Md_drift_47 ?_
      obtain ⟨b6, hb6, hf⟩ := bd_E hf
      refine hv_getR (pn := 51) X d_Md_drift_48 fa_Md_121 hb6 ?_
      refine hv_iload_n (pn := 52) X d_Md_drift_51 ?_
      refine hv_iload_n (pn := 53) X d_Md_drift_52 ?_
      obtain ⟨σ7, hσ7, hf⟩ := bd_E hf
      refine hv_iast (pn := 54) X d_Md_drift_53 hσ7 ?_
      refine hv_iload_n (pn := 55) X d_Md_drift_54 ?_
      cases hf
      exact hv_iret X d_Md_drift_55 E
    · rw [if_neg hc] at hf
      refine hv_aload_n (pn := 35) X d_Md_drift_34 ?_
      refine hv_iconst (pn := 36) (v := 2) X d_Md_drift_35 ?_
      obtain ⟨_, hr8, hf⟩ := bd_E hf
      obtain ⟨σ9, v10, hσ9, hf⟩ := bd2_E hf
      obtain ⟨hσ9, mσ9⟩ := ho_ck_E hσ9
      refine hv_callV (pn := 39) X d_Md_drift_36 (c_Md_fail _ _ N σ1 a0 2 _ _ hσ9) cs_Md_223 q_5_3 rfl qs_Md_fail hr8 (by decide) (by decide) mσ9 (Nat.le_of_ble_eq_true rfl) ?_
      cases hf
      exact hv_iret X d_Md_drift_39 E
  · rw [if_neg hc] at hf
    refine hv_aload_n (pn := 16) X d_Md_drift_15 ?_
    refine hv_iconst (pn := 17) (v := 1) X d_Md_drift_16 ?_
    obtain ⟨_, hr11, hf⟩ := bd_E hf
    obtain ⟨σ12, v13, hσ12, hf⟩ := bd2_E hf
    obtain ⟨hσ12, mσ12⟩ := ho_ck_E hσ12
    refine hv_callV (pn := 20) X d_Md_drift_17 (c_Md_fail _ _ N σ1 a0 1 _ _ hσ12) cs_Md_223 q_5_3 rfl qs_Md_fail hr11 (by decide) (by decide) mσ12 (Nat.le_of_ble_eq_true rfl) ?_
    cases hf
    exact hv_iret X d_Md_drift_20 E
