set_option maxHeartbeats 4000000 in
set_option maxRecDepth 100000 in
theorem w_Md_judge_j106 {k : mk_T} (X : hv_X k b_Md_judge y_Md_judge.cls 7 7 166 (some (.int)) y_Md_judge.name) (N : Nat) (σ : ho_H)   (r : ho_H × Int32) (hf : f_Md_judge_j106 k.2.1 N σ  = some r) (E : hv_end k r.1 (some (.int r.2))) : hv_V k σ 106 [none, none, none, none, none, none, none] [] := by
  unfold f_Md_judge_j106 at hf
  refine hv_iconst (pn := 107) (v := 1) X d_Md_judge_106 ?_
  cases hf
  exact hv_iret X d_Md_judge_107 E
set_option maxHeartbeats 4000000 in
set_option maxRecDepth 100000 in
theorem w_Md_judge_l151 {k : mk_T} (X : hv_X k b_Md_judge y_Md_judge.cls 7 7 166 (some (.int)) y_Md_judge.name) (N : Nat) (a0 : Nat) (x1 : Int32) (x2 : Int32) (σ : ho_H) (x6 : Int32) (r : (ho_H × Int32) ⊕ (ho_H)) (hf : f_Md_judge_l151 k.2.1 N a0 x1 x2 (σ, x6) = some r) (E : sm (fun s => hv_V k s.1 151 [some (.ref a0), some (.int x1), some (.int x2), none, none, none, some (.int s.2)] []) (fun s => hv_V k s 189 [some (.ref a0), some (.int x1), none, none, none, none, none] []) r) : hv_V k σ 151 [some (.ref a0), some (.int x1), some (.int x2), none, none, none, some (.int x6)] [] := by
  unfold f_Md_judge_l151 at hf
  try dsimp only at hf
  refine hv_iload (pn := 153) X d_Md_judge_151 ?_
  refine hv_iload_n (pn := 154) X d_Md_judge_153 ?_
  refine hv_icmp_ge (pn := 157) (tgt := 189) X d_Md_judge_154 (by decide) (fun hc => ?_) (fun hc => ?_)
  · rw [if_pos hc] at hf
    refine hv_drop (i := 2) (lo' := [some (.ref a0), some (.int x1), none, none, none, none, some (.int x6)]) ?_
    refine hv_drop (i := 6) (lo' := [some (.ref a0), some (.int x1), none, none, none, none, none]) ?_
    cases hf
    exact E
  · rw [if_neg hc] at hf
    refine hv_aload_n (pn := 158) X d_Md_judge_157 ?_
    obtain ⟨b25, hb25, hf⟩ := bd_E hf
    refine hv_getR (pn := 161) X d_Md_judge_158 fa_Md_146 hb25 ?_
    refine hv_aload_n (pn := 162) X d_Md_judge_161 ?_
    refine hv_iload_n (pn := 163) X d_Md_judge_162 ?_
    refine hv_aload_n (pn := 164) X d_Md_judge_163 ?_
    obtain ⟨b26, hb26, hf⟩ := bd_E hf
    refine hv_getR (pn := 167) X d_Md_judge_164 fa_Md_140 hb26 ?_
    refine hv_iload_n (pn := 168) X d_Md_judge_167 ?_
    obtain ⟨v27, hv27, hf⟩ := bd_E hf
    refine hv_iald (pn := 169) X d_Md_judge_168 hv27 ?_
    obtain ⟨_, hr28, hf⟩ := bd_E hf
    obtain ⟨v29, hv29, hf⟩ := bd_E hf
    refine hv_callV (pn := 172) X d_Md_judge_169 (c_Md_heldAt _ _ N σ a0 x1 v27 _ hv29) cs_Md_265 q_5_128 rfl qs_Md_heldAt hr28 (by decide) (by decide) ⟨Nat.le_refl _, Nat.le_refl _⟩ (Nat.le_of_ble_eq_true rfl) ?_
    refine hv_iload (pn := 174) X d_Md_judge_172 ?_
    refine hv_iadd (pn := 175) X d_Md_judge_174 ?_
    refine hv_aload_n (pn := 176) X d_Md_judge_175 ?_
    obtain ⟨b30, hb30, hf⟩ := bd_E hf
    refine hv_getR (pn := 179) X d_Md_judge_176 fa_Md_166 hb30 ?_
    refine hv_iload (pn := 181) X d_Md_judge_179 ?_
    obtain ⟨v31, hv31, hf⟩ := bd_E hf
    refine hv_iald (pn := 182) X d_Md_judge_181 hv31 ?_
    obtain ⟨σ32, hσ32, hf⟩ := bd_E hf
    refine hv_iast (pn := 183) X d_Md_judge_182 hσ32 ?_
    refine hv_iinc (pn := 186) (i := 6) (v := x6 + 1) (lo' := [some (.ref a0), some (.int x1), some (.int x2), none, none, none, some (.int (x6 + 1))]) X d_Md_judge_183 ?_
    refine hv_goto (tgt := 151) X d_Md_judge_186 (by decide) ?_
    cases hf
    exact E
set_option maxHeartbeats 4000000 in
set_option maxRecDepth 100000 in
theorem w_Md_judge_j108 {k : mk_T} (X : hv_X k b_Md_judge y_Md_judge.cls 7 7 166 (some (.int)) y_Md_judge.name) (N : Nat) (σ : ho_H) (a0 : Nat) (x1 : Int32) (x2 : Int32)  (r : ho_H × Int32) (hf : f_Md_judge_j108 k.2.1 N σ a0 x1 x2 = some r) (E : hv_end k r.1 (some (.int r.2))) : hv_V k σ 108 [some (.ref a0), some (.int x1), some (.int x2), none, none, none, none] [] := by
  unfold f_Md_judge_j108 at hf
  refine hv_aload_n (pn := 109) X d_Md_judge_108 ?_
  refine hv_iload_n (pn := 110) X d_Md_judge_109 ?_
  obtain ⟨_, hr17, hf⟩ := bd_E hf
  obtain ⟨v18, hv18, hf⟩ := bd_E hf
  refine hv_callV (pn := 113) X d_Md_judge_110 (c_Md_isTwice _ _ N σ a0 x1 _ hv18) cs_Md_293 q_5_140 rfl qs_Md_isTwice hr17 (by decide) (by decide) ⟨Nat.le_refl _, Nat.le_refl _⟩ (Nat.le_of_ble_eq_true rfl) ?_
  refine hv_if_eq (pn := 116) (tgt := 118) X d_Md_judge_113 (by decide) (fun hc => ?_) (fun hc => ?_)
  · rw [if_pos hc] at hf
    refine hv_aload_n (pn := 119) X d_Md_judge_118 ?_
    obtain ⟨b19, hb19, hf⟩ := bd_E hf
    refine hv_getR (pn := 122) X d_Md_judge_119 fa_Md_140 hb19 ?_
    refine hv_iload_n (pn := 123) X d_Md_judge_122 ?_
    obtain ⟨v20, hv20, hf⟩ := bd_E hf
    refine hv_iald (pn := 124) X d_Md_judge_123 hv20 ?_
    refine hv_bipush (pn := 126) (v := 16) X d_Md_judge_124 ?_
    refine hv_icmp_ne (pn := 129) (tgt := 131) X d_Md_judge_126 (by decide) (fun hc => ?_) (fun hc => ?_)
    · rw [if_pos hc] at hf
      refine hv_aload_n (pn := 132) X d_Md_judge_131 ?_
      obtain ⟨b21, hb21, hf⟩ := bd_E hf
      refine hv_getR (pn := 135) X d_Md_judge_132 fa_Md_143 hb21 ?_
      refine hv_bipush (pn := 137) (v := 16) X d_Md_judge_135 ?_
      refine hv_iload_n (pn := 138) X d_Md_judge_137 ?_
      refine hv_imul (pn := 139) X d_Md_judge_138 ?_
      refine hv_aload_n (pn := 140) X d_Md_judge_139 ?_
      obtain ⟨b22, hb22, hf⟩ := bd_E hf
      refine hv_getR (pn := 143) X d_Md_judge_140 fa_Md_140 hb22 ?_
      refine hv_iload_n (pn := 144) X d_Md_judge_143 ?_
      obtain ⟨v23, hv23, hf⟩ := bd_E hf
      refine hv_iald (pn := 145) X d_Md_judge_144 hv23 ?_
      refine hv_iadd (pn := 146) X d_Md_judge_145 ?_
      refine hv_iload_n (pn := 147) X d_Md_judge_146 ?_
      obtain ⟨σ24, hσ24, hf⟩ := bd_E hf
      refine hv_iast (pn := 148) X d_Md_judge_147 hσ24 ?_
      refine hv_iconst (pn := 149) (v := 0) X d_Md_judge_148 ?_
      refine hv_istore (pn := 151) (i := 6) (lo' := [some (.ref a0), some (.int x1), some (.int x2), none, none, none, some (.int 0)]) X d_Md_judge_149 ?_
      obtain ⟨σ33, he38, hf⟩ := bd_E hf
      refine hv_loop (P := fun s => hv_V k s.1 151 [some (.ref a0), some (.int x1), some (.int x2), none, none, none, some (.int s.2)] []) (Z := fun s => hv_V k s 189 [some (.ref a0), some (.int x1), none, none, none, none, none] []) (fun s r h1 h2 => by obtain ⟨σ, x6⟩ := s; exact w_Md_judge_l151 X N a0 x1 x2 σ x6 r h1 h2) N (σ24, 0) _ he38 ?_
      try dsimp only at hf ⊢
      refine hv_aload_n (pn := 190) X d_Md_judge_189 ?_
      obtain ⟨b34, hb34, hf⟩ := bd_E hf
      refine hv_getR (pn := 193) X d_Md_judge_190 fa_Md_140 hb34 ?_
      refine hv_iload_n (pn := 194) X d_Md_judge_193 ?_
      refine hv_dup2 (pn := 195) X d_Md_judge_194 rfl rfl ?_
      obtain ⟨v35, hv35, hf⟩ := bd_E hf
      refine hv_iald (pn := 196) X d_Md_judge_195 hv35 ?_
      refine hv_iconst (pn := 197) (v := 1) X d_Md_judge_196 ?_
      refine hv_iadd (pn := 198) X d_Md_judge_197 ?_
      obtain ⟨σ36, hσ36, hf⟩ := bd_E hf
      refine hv_iast (pn := 199) X d_Md_judge_198 hσ36 ?_
      refine hv_iconst (pn := 200) (v := 0) X d_Md_judge_199 ?_
      cases hf
      exact hv_iret X d_Md_judge_200 E
    · rw [if_neg hc] at hf
      refine hv_iconst (pn := 130) (v := 4) X d_Md_judge_129 ?_
      cases hf
      exact hv_iret X d_Md_judge_130 E
  · rw [if_neg hc] at hf
    refine hv_iconst (pn := 117) (v := 3) X d_Md_judge_116 ?_
    cases hf
    exact hv_iret X d_Md_judge_117 E
set_option maxHeartbeats 4000000 in
set_option maxRecDepth 100000 in
theorem w_Md_judge_j33 {k : mk_T} (X : hv_X k b_Md_judge y_Md_judge.cls 7 7 166 (some (.int)) y_Md_judge.name) (N : Nat) (σ : ho_H) (a0 : Nat) (x1 : Int32) (x2 : Int32)  (r : ho_H × Int32) (hf : f_Md_judge_j33 k.2.1 N σ a0 x1 x2 = some r) (E : hv_end k r.1 (some (.int r.2))) : hv_V k σ 33 [some (.ref a0), some (.int x1), some (.int x2), none, none, none, none] [] := by
  unfold f_Md_judge_j33 at hf
  refine hv_aload_n (pn := 34) X d_Md_judge_33 ?_
  obtain ⟨_, hr6, hf⟩ := bd_E hf
  obtain ⟨v7, hv7, hf⟩ := bd_E hf
  refine hv_callV (pn := 37) X d_Md_judge_34 (c_Md_intervalOfCopy _ _ N σ a0 _ hv7) cs_Md_259 q_5_104 rfl qs_Md_intervalOfCopy hr6 (by decide) (by decide) ⟨Nat.le_refl _, Nat.le_refl _⟩ (Nat.le_of_ble_eq_true rfl) ?_
  refine hv_istore (pn := 39) (i := 4) (lo' := [some (.ref a0), some (.int x1), some (.int x2), none, some (.int v7), none, none]) X d_Md_judge_37 ?_
  refine hv_bipush (pn := 41) (v := 8) X d_Md_judge_39 ?_
  refine hv_iload_n (pn := 42) X d_Md_judge_41 ?_
  refine hv_imul (pn := 43) X d_Md_judge_42 ?_
  refine hv_iload (pn := 45) X d_Md_judge_43 ?_
  obtain ⟨v8, hv8, hf⟩ := bd_E hf
  refine hv_callS (pn := 48) X d_Md_judge_45 (c_Md_chainOf _ _ N σ v7 _ hv8) cs_Md_239 q_5_52 (by decide) (by decide) ⟨Nat.le_refl _, Nat.le_refl _⟩ (Nat.le_of_ble_eq_true rfl) ?_
  refine hv_iadd (pn := 49) X d_Md_judge_48 ?_
  refine hv_istore (pn := 51) (i := 5) (lo' := [some (.ref a0), some (.int x1), some (.int x2), none, some (.int v7), some (.int ((8 * x1) + v8)), none]) X d_Md_judge_49 ?_
  refine hv_aload_n (pn := 52) X d_Md_judge_51 ?_
  obtain ⟨v9, hv9, hf⟩ := bd_E hf
  refine hv_getI (pn := 55) X d_Md_judge_52 fa_Md_217 hv9 ?_
  refine hv_aload_n (pn := 56) X d_Md_judge_55 ?_
  obtain ⟨b10, hb10, hf⟩ := bd_E hf
  refine hv_getR (pn := 59) X d_Md_judge_56 fa_Md_121 hb10 ?_
  refine hv_iload_n (pn := 60) X d_Md_judge_59 ?_
  obtain ⟨v11, hv11, hf⟩ := bd_E hf
  refine hv_iald (pn := 61) X d_Md_judge_60 hv11 ?_
  refine hv_iadd (pn := 62) X d_Md_judge_61 ?_
  refine hv_aload_n (pn := 63) X d_Md_judge_62 ?_
  obtain ⟨v12, hv12, hf⟩ := bd_E hf
  refine hv_getI (pn := 66) X d_Md_judge_63 fa_Md_186 hv12 ?_
  refine hv_iadd (pn := 67) X d_Md_judge_66 ?_
  refine hv_iload (pn := 69) X d_Md_judge_67 ?_
  refine hv_aload_n (pn := 70) X d_Md_judge_69 ?_
  obtain ⟨v13, hv13, hf⟩ := bd_E hf
  refine hv_getI (pn := 73) X d_Md_judge_70 fa_Md_179 hv13 ?_
  refine hv_iadd (pn := 74) X d_Md_judge_73 ?_
  refine hv_iconst (pn := 75) (v := 1) X d_Md_judge_74 ?_
  refine hv_isub (pn := 76) X d_Md_judge_75 ?_
  refine hv_aload_n (pn := 77) X d_Md_judge_76 ?_
  obtain ⟨v14, hv14, hf⟩ := bd_E hf
  refine hv_getI (pn := 80) X d_Md_judge_77 fa_Md_183 hv14 ?_
  refine hv_imul (pn := 81) X d_Md_judge_80 ?_
  refine hv_icmp_ge (pn := 84) (tgt := 106) X d_Md_judge_81 (by decide) (fun hc => ?_) (fun hc => ?_)
  · rw [if_pos hc] at hf
    refine hv_drop (i := 0) (lo' := [none, some (.int x1), some (.int x2), none, some (.int v7), some (.int ((8 * x1) + v8)), none]) ?_
    refine hv_drop (i := 1) (lo' := [none, none, some (.int x2), none, some (.int v7), some (.int ((8 * x1) + v8)), none]) ?_
    refine hv_drop (i := 2) (lo' := [none, none, none, none, some (.int v7), some (.int ((8 * x1) + v8)), none]) ?_
    refine hv_drop (i := 4) (lo' := [none, none, none, none, none, some (.int ((8 * x1) + v8)), none]) ?_
    refine hv_drop (i := 5) (lo' := [none, none, none, none, none, none, none]) ?_
    exact w_Md_judge_j106 X N σ   _ hf E
  · rw [if_neg hc] at hf
    refine hv_aload_n (pn := 85) X d_Md_judge_84 ?_
    obtain ⟨b15, hb15, hf⟩ := bd_E hf
    refine hv_getR (pn := 88) X d_Md_judge_85 fa_Md_124 hb15 ?_
    refine hv_iload (pn := 90) X d_Md_judge_88 ?_
    obtain ⟨v16, hv16, hf⟩ := bd_E hf
    refine hv_zald (pn := 91) X d_Md_judge_90 hv16 ?_
    refine hv_if_eq (pn := 94) (tgt := 108) X d_Md_judge_91 (by decide) (fun hc => ?_) (fun hc => ?_)
    · rw [if_pos hc] at hf
      refine hv_drop (i := 4) (lo' := [some (.ref a0), some (.int x1), some (.int x2), none, none, some (.int ((8 * x1) + v8)), none]) ?_
      refine hv_drop (i := 5) (lo' := [some (.ref a0), some (.int x1), some (.int x2), none, none, none, none]) ?_
      exact w_Md_judge_j108 X N σ a0 x1 x2  _ hf E
    · rw [if_neg hc] at hf
      refine hv_aload_n (pn := 95) X d_Md_judge_94 ?_
      obtain ⟨b39, hb39, hf⟩ := bd_E hf
      refine hv_getR (pn := 98) X d_Md_judge_95 fa_Md_131 hb39 ?_
      refine hv_iload (pn := 100) X d_Md_judge_98 ?_
      obtain ⟨v40, hv40, hf⟩ := bd_E hf
      refine hv_iald (pn := 101) X d_Md_judge_100 hv40 ?_
      refine hv_iload (pn := 103) X d_Md_judge_101 ?_
      refine hv_icmp_lt (pn := 106) (tgt := 108) X d_Md_judge_103 (by decide) (fun hc => ?_) (fun hc => ?_)
      · rw [if_pos hc] at hf
        refine hv_drop (i := 4) (lo' := [some (.ref a0), some (.int x1), some (.int x2), none, none, some (.int ((8 * x1) + v8)), none]) ?_
        refine hv_drop (i := 5) (lo' := [some (.ref a0), some (.int x1), some (.int x2), none, none, none, none]) ?_
        exact w_Md_judge_j108 X N σ a0 x1 x2  _ hf E
      · rw [if_neg hc] at hf
        refine hv_drop (i := 0) (lo' := [none, some (.int x1), some (.int x2), none, some (.int v7), some (.int ((8 * x1) + v8)), none]) ?_
        refine hv_drop (i := 1) (lo' := [none, none, some (.int x2), none, some (.int v7), some (.int ((8 * x1) + v8)), none]) ?_
        refine hv_drop (i := 2) (lo' := [none, none, none, none, some (.int v7), some (.int ((8 * x1) + v8)), none]) ?_
        refine hv_drop (i := 4) (lo' := [none, none, none, none, none, some (.int ((8 * x1) + v8)), none]) ?_
        refine hv_drop (i := 5) (lo' := [none, none, none, none, none, none, none]) ?_
        exact w_Md_judge_j106 X N σ   _ hf E
set_option maxHeartbeats 4000000 in
set_option maxRecDepth 100000 in
theorem c_Md_judge (l : Launch) (G : ho_G) (N : Nat) (σ : ho_H) (a0 : Nat) (x1 : Int32) (x2 : Int32) (σ' : ho_H) (r : Int32) (hf : f_Md_judge G N σ a0 x1 x2 = some (σ', r)) : hv_C l G y_Md_judge (Cond.code y_Md_judge b_Md_judge 7 (some (.int)) :: hv_ws) 7 166 [.ref a0, .int x1, .int x2] σ σ' (some (.int r)) := by
  refine hv_met [some (.ref a0), some (.int x1), some (.int x2), none, none, none, none] (plainFor_of_name (by decide +kernel)) (by intro v hv; simp at hv; rcases hv with rfl | rfl | rfl <;> rfl) (Nat.le_of_ble_eq_true rfl) rfl ?_
  intro k X hkl hkG E
  subst hkl
  subst hkG
  unfold f_Md_judge at hf
  refine hv_aload_n (pn := 1) X d_Md_judge_0 ?_
  refine hv_iload_n (pn := 2) X d_Md_judge_1 ?_
  obtain ⟨_, hr1, hf⟩ := bd_E hf
  obtain ⟨v2, hv2, hf⟩ := bd_E hf
  refine hv_callV (pn := 5) X d_Md_judge_2 (c_Md_isBroken _ _ N σ a0 x2 _ hv2) cs_Md_283 q_5_100 rfl qs_Md_isBroken hr1 (by decide) (by decide) ⟨Nat.le_refl _, Nat.le_refl _⟩ (Nat.le_of_ble_eq_true rfl) ?_
  refine hv_if_eq (pn := 8) (tgt := 10) X d_Md_judge_5 (by decide) (fun hc => ?_) (fun hc => ?_)
  · rw [if_pos hc] at hf
    refine hv_aload_n (pn := 11) X d_Md_judge_10 ?_
    refine hv_iload_n (pn := 12) X d_Md_judge_11 ?_
    obtain ⟨_, hr3, hf⟩ := bd_E hf
    obtain ⟨σ4, v5, hσ4, hf⟩ := bd2_E hf
    obtain ⟨hσ4, mσ4⟩ := ho_ck_E hσ4
    refine hv_callV (pn := 15) X d_Md_judge_12 (c_Md_lookAtKey _ _ N σ a0 x1 _ _ hσ4) cs_Md_287 q_5_108 rfl qs_Md_lookAtKey hr3 (by decide) (by decide) mσ4 (Nat.le_of_ble_eq_true rfl) ?_
    refine hv_istore_n (pn := 16) (i := 3) (lo' := [some (.ref a0), some (.int x1), some (.int x2), some (.int v5), none, none, none]) X d_Md_judge_15 ?_
    refine hv_iload_n (pn := 17) X d_Md_judge_16 ?_
    refine hv_iconst (pn := 18) (v := 2) X d_Md_judge_17 ?_
    refine hv_icmp_ne (pn := 21) (tgt := 23) X d_Md_judge_18 (by decide) (fun hc => ?_) (fun hc => ?_)
    · rw [if_pos hc] at hf
      refine hv_iload_n (pn := 24) X d_Md_judge_23 ?_
      refine hv_iconst (pn := 25) (v := 1) X d_Md_judge_24 ?_
      refine hv_icmp_ne (pn := 28) (tgt := 33) X d_Md_judge_25 (by decide) (fun hc => ?_) (fun hc => ?_)
      · rw [if_pos hc] at hf
        refine hv_drop (i := 3) (lo' := [some (.ref a0), some (.int x1), some (.int x2), none, none, none, none]) ?_
        exact w_Md_judge_j33 X N σ4 a0 x1 x2  _ hf E
      · rw [if_neg hc] at hf
        refine hv_aload_n (pn := 29) X d_Md_judge_28 ?_
        refine hv_iload_n (pn := 30) X d_Md_judge_29 ?_
        obtain ⟨_, hr41, hf⟩ := bd_E hf
        obtain ⟨σ42, hσ42, hf⟩ := bd_E hf
        obtain ⟨hσ42, mσ42⟩ := ho_cv_E hσ42
        refine hv_callV (pn := 33) X d_Md_judge_30 (c_Md_release _ _ N σ4 a0 x1 _ hσ42) cs_Md_290 q_5_116 rfl qs_Md_release hr41 (by decide) (by decide) mσ42 (Nat.le_of_ble_eq_true rfl) ?_
        refine hv_drop (i := 3) (lo' := [some (.ref a0), some (.int x1), some (.int x2), none, none, none, none]) ?_
        exact w_Md_judge_j33 X N σ42 a0 x1 x2  _ hf E
    · rw [if_neg hc] at hf
      refine hv_iconst (pn := 22) (v := 2) X d_Md_judge_21 ?_
      cases hf
      exact hv_iret X d_Md_judge_22 E
  · rw [if_neg hc] at hf
    refine hv_iconst (pn := 9) (v := 5) X d_Md_judge_8 ?_
    cases hf
    exact hv_iret X d_Md_judge_9 E
set_option maxHeartbeats 4000000 in
set_option maxRecDepth 100000 in
theorem w_Md_arrive_j45 {k : mk_T} (X : hv_X k b_Md_arrive y_Md_arrive.cls 6 8 192 (some (.int)) y_Md_arrive.name) (N : Nat) (σ : ho_H) (a0 : Nat)  (r : ho_H × Int32) (hf : f_Md_arrive_j45 k.2.1 N σ a0 = some r) (E : hv_end k r.1 (some (.int r.2))) : hv_V k σ 45 [some (.ref a0), none, none, none, none, none] [] := by
  unfold f_Md_arrive_j45 at hf
  refine hv_aload_n (pn := 46) X d_Md_arrive_45 ?_
  refine hv_iconst (pn := 47) (v := 1) X d_Md_arrive_46 ?_
  obtain ⟨_, hr3, hf⟩ := bd_E hf
  obtain ⟨σ4, v5, hσ4, hf⟩ := bd2_E hf
  obtain ⟨hσ4, mσ4⟩ := ho_ck_E hσ4
  refine hv_callV (pn := 50) X d_Md_arrive_47 (c_Md_fail _ _ N σ a0 1 _ _ hσ4) cs_Md_223 q_5_3 rfl qs_Md_fail hr3 (by decide) (by decide) mσ4 (Nat.le_of_ble_eq_true rfl) ?_
  cases hf
  exact hv_iret X d_Md_arrive_50 E
set_option maxHeartbeats 4000000 in
set_option maxRecDepth 100000 in
theorem w_Md_arrive_l72 {k : mk_T} (X : hv_X k b_Md_arrive y_Md_arrive.cls 6 8 192 (some (.int)) y_Md_arrive.name) (N : Nat) (a0 : Nat) (x1 : Int32) (x2 : Int32) (x3 : Int32) (x4 : Int32) (σ : ho_H) (x5 : Int32) (r : (ho_H × Int32) ⊕ (ho_H)) (hf : f_Md_arrive_l72 k.2.1 N a0 x1 x2 x3 x4 (σ, x5) = some r) (E : sm (fun s => hv_V k s.1 72 [some (.ref a0), some (.int x1), some (.int x2), some (.int x3), some (.int x4), some (.int s.2)] []) (fun s => hv_V k s 108 [some (.ref a0), some (.int x1), some (.int x2), some (.int x3), some (.int x4), none] []) r) : hv_V k σ 72 [some (.ref a0), some (.int x1), some (.int x2), some (.int x3), some (.int x4), some (.int x5)] [] := by
  unfold f_Md_arrive_l72 at hf
  try dsimp only at hf
  refine hv_iload (pn := 74) X d_Md_arrive_72 ?_
  refine hv_aload_n (pn := 75) X d_Md_arrive_74 ?_
  obtain ⟨b12, hb12, hf⟩ := bd_E hf
  refine hv_getR (pn := 78) X d_Md_arrive_75 fa_Md_115 hb12 ?_
  refine hv_iload_n (pn := 79) X d_Md_arrive_78 ?_
  obtain ⟨v13, hv13, hf⟩ := bd_E hf
  refine hv_iald (pn := 80) X d_Md_arrive_79 hv13 ?_
  refine hv_icmp_ge (pn := 83) (tgt := 108) X d_Md_arrive_80 (by decide) (fun hc => ?_) (fun hc => ?_)
  · rw [if_pos hc] at hf
    refine hv_drop (i := 5) (lo' := [some (.ref a0), some (.int x1), some (.int x2), some (.int x3), some (.int x4), none]) ?_
    cases hf
    exact E
  · rw [if_neg hc] at hf
    refine hv_aload_n (pn := 84) X d_Md_arrive_83 ?_
    obtain ⟨b14, hb14, hf⟩ := bd_E hf
    refine hv_getR (pn := 87) X d_Md_arrive_84 fa_Md_166 hb14 ?_
    refine hv_iload (pn := 89) X d_Md_arrive_87 ?_
    refine hv_aload_n (pn := 90) X d_Md_arrive_89 ?_
    obtain ⟨b15, hb15, hf⟩ := bd_E hf
    refine hv_getR (pn := 93) X d_Md_arrive_90 fa_Md_118 hb15 ?_
    refine hv_bipush (pn := 95) (v := 68) X d_Md_arrive_93 ?_
    refine hv_iload_n (pn := 96) X d_Md_arrive_95 ?_
    refine hv_imul (pn := 97) X d_Md_arrive_96 ?_
    refine hv_iload (pn := 99) X d_Md_arrive_97 ?_
    refine hv_iadd (pn := 100) X d_Md_arrive_99 ?_
    obtain ⟨v16, hv16, hf⟩ := bd_E hf
    refine hv_iald (pn := 101) X d_Md_arrive_100 hv16 ?_
    obtain ⟨σ17, hσ17, hf⟩ := bd_E hf
    refine hv_iast (pn := 102) X d_Md_arrive_101 hσ17 ?_
    refine hv_iinc (pn := 105) (i := 5) (v := x5 + 1) (lo' := [some (.ref a0), some (.int x1), some (.int x2), some (.int x3), some (.int x4), some (.int (x5 + 1))]) X d_Md_arrive_102 ?_
    refine hv_goto (tgt := 72) X d_Md_arrive_105 (by decide) ?_
    cases hf
    exact E
set_option maxHeartbeats 4000000 in
set_option maxRecDepth 100000 in
theorem c_Md_arrive (l : Launch) (G : ho_G) (N : Nat) (σ : ho_H) (a0 : Nat) (x1 : Int32) (x2 : Int32) (x3 : Int32) (x4 : Int32) (σ' : ho_H) (r : Int32) (hf : f_Md_arrive G N σ a0 x1 x2 x3 x4 = some (σ', r)) : hv_C l G y_Md_arrive (Cond.code y_Md_arrive b_Md_arrive 6 (some (.int)) :: hv_ws) 8 192 [.ref a0, .int x1, .int x2, .int x3, .int x4] σ σ' (some (.int r)) := by
  refine hv_met [some (.ref a0), some (.int x1), some (.int x2), some (.int x3), some (.int x4), none] (plainFor_of_name (by decide +kernel)) (by intro v hv; simp at hv; rcases hv with rfl | rfl | rfl | rfl | rfl <;> rfl) (Nat.le_of_ble_eq_true rfl) rfl ?_
  intro k X hkl hkG E
  subst hkl
  subst hkG
  unfold f_Md_arrive at hf
  refine hv_aload_n (pn := 1) X d_Md_arrive_0 ?_
  refine hv_iconst (pn := 2) (v := 0) X d_Md_arrive_1 ?_
  obtain ⟨σ1, hσ1, hf⟩ := bd_E hf
  refine hv_put (pn := 5) X d_Md_arrive_2 fp_Md_189 hσ1 ?_
  refine hv_iload_n (pn := 6) X d_Md_arrive_5 ?_
  refine hv_iconst (pn := 7) (v := 0) X d_Md_arrive_6 ?_
  refine hv_bipush (pn := 9) (v := 7) X d_Md_arrive_7 ?_
  obtain ⟨v2, hv2, hf⟩ := bd_E hf
  refine hv_callS (pn := 12) X d_Md_arrive_9 (c_Md_within _ _ N σ1 x1 0 7 _ hv2) cs_Md_231 q_5_33 (by decide) (by decide) ⟨Nat.le_refl _, Nat.le_refl _⟩ (Nat.le_of_ble_eq_true rfl) ?_
  refine hv_if_eq (pn := 15) (tgt := 45) X d_Md_arrive_12 (by decide) (fun hc => ?_) (fun hc => ?_)
  · rw [if_pos hc] at hf
    refine hv_drop (i := 1) (lo' := [some (.ref a0), none, some (.int x2), some (.int x3), some (.int x4), none]) ?_
    refine hv_drop (i := 2) (lo' := [some (.ref a0), none, none, some (.int x3), some (.int x4), none]) ?_
    refine hv_drop (i := 3) (lo' := [some (.ref a0), none, none, none, some (.int x4), none]) ?_
    refine hv_drop (i := 4) (lo' := [some (.ref a0), none, none, none, none, none]) ?_
    exact w_Md_arrive_j45 X N σ1 a0  _ hf E
  · rw [if_neg hc] at hf
    refine hv_iload_n (pn := 16) X d_Md_arrive_15 ?_
    refine hv_iconst (pn := 17) (v := 0) X d_Md_arrive_16 ?_
    refine hv_aload_n (pn := 18) X d_Md_arrive_17 ?_
    obtain ⟨v6, hv6, hf⟩ := bd_E hf
    refine hv_getI (pn := 21) X d_Md_arrive_18 fa_Md_249 hv6 ?_
    refine hv_iconst (pn := 22) (v := 1) X d_Md_arrive_21 ?_
    refine hv_isub (pn := 23) X d_Md_arrive_22 ?_
    obtain ⟨v7, hv7, hf⟩ := bd_E hf
    refine hv_callS (pn := 26) X d_Md_arrive_23 (c_Md_within _ _ N σ1 x2 0 (v6 - 1) _ hv7) cs_Md_231 q_5_33 (by decide) (by decide) ⟨Nat.le_refl _, Nat.le_refl _⟩ (Nat.le_of_ble_eq_true rfl) ?_
    refine hv_if_eq (pn := 29) (tgt := 45) X d_Md_arrive_26 (by decide) (fun hc => ?_) (fun hc => ?_)
    · rw [if_pos hc] at hf
      refine hv_drop (i := 1) (lo' := [some (.ref a0), none, some (.int x2), some (.int x3), some (.int x4), none]) ?_
      refine hv_drop (i := 2) (lo' := [some (.ref a0), none, none, some (.int x3), some (.int x4), none]) ?_
      refine hv_drop (i := 3) (lo' := [some (.ref a0), none, none, none, some (.int x4), none]) ?_
      refine hv_drop (i := 4) (lo' := [some (.ref a0), none, none, none, none, none]) ?_
      exact w_Md_arrive_j45 X N σ1 a0  _ hf E
    · rw [if_neg hc] at hf
      refine hv_iload_n (pn := 30) X d_Md_arrive_29 ?_
      refine hv_iconst (pn := 31) (v := 0) X d_Md_arrive_30 ?_
      refine hv_aload_n (pn := 32) X d_Md_arrive_31 ?_
      obtain ⟨b8, hb8, hf⟩ := bd_E hf
      refine hv_getR (pn := 35) X d_Md_arrive_32 fa_Md_115 hb8 ?_
      refine hv_iload_n (pn := 36) X d_Md_arrive_35 ?_
      obtain ⟨v9, hv9, hf⟩ := bd_E hf
      refine hv_iald (pn := 37) X d_Md_arrive_36 hv9 ?_
      refine hv_iconst (pn := 38) (v := 1) X d_Md_arrive_37 ?_
      refine hv_isub (pn := 39) X d_Md_arrive_38 ?_
      obtain ⟨v10, hv10, hf⟩ := bd_E hf
      refine hv_callS (pn := 42) X d_Md_arrive_39 (c_Md_within _ _ N σ1 x3 0 (v9 - 1) _ hv10) cs_Md_231 q_5_33 (by decide) (by decide) ⟨Nat.le_refl _, Nat.le_refl _⟩ (Nat.le_of_ble_eq_true rfl) ?_
      refine hv_if_ne (pn := 45) (tgt := 51) X d_Md_arrive_42 (by decide) (fun hc => ?_) (fun hc => ?_)
      · rw [if_pos hc] at hf
        refine hv_iload (pn := 53) X d_Md_arrive_51 ?_
        refine hv_iconst (pn := 54) (v := 0) X d_Md_arrive_53 ?_
        refine hv_sipush (pn := 57) (v := 255) X d_Md_arrive_54 ?_
        obtain ⟨v11, hv11, hf⟩ := bd_E hf
        refine hv_callS (pn := 60) X d_Md_arrive_57 (c_Md_within _ _ N σ1 x4 0 255 _ hv11) cs_Md_231 q_5_33 (by decide) (by decide) ⟨Nat.le_refl _, Nat.le_refl _⟩ (Nat.le_of_ble_eq_true rfl) ?_
        refine hv_if_ne (pn := 63) (tgt := 69) X d_Md_arrive_60 (by decide) (fun hc => ?_) (fun hc => ?_)
        · rw [if_pos hc] at hf
          refine hv_iconst (pn := 70) (v := 0) X d_Md_arrive_69 ?_
          refine hv_istore (pn := 72) (i := 5) (lo' := [some (.ref a0), some (.int x1), some (.int x2), some (.int x3), some (.int x4), some (.int 0)]) X d_Md_arrive_70 ?_
          obtain ⟨σ18, he32, hf⟩ := bd_E hf
          refine hv_loop (P := fun s => hv_V k s.1 72 [some (.ref a0), some (.int x1), some (.int x2), some (.int x3), some (.int x4), some (.int s.2)] []) (Z := fun s => hv_V k s 108 [some (.ref a0), some (.int x1), some (.int x2), some (.int x3), some (.int x4), none] []) (fun s r h1 h2 => by obtain ⟨σ, x5⟩ := s; exact w_Md_arrive_l72 X N a0 x1 x2 x3 x4 σ x5 r h1 h2) N (σ1, 0) _ he32 ?_
          try dsimp only at hf ⊢
          refine hv_aload_n (pn := 109) X d_Md_arrive_108 ?_
          obtain ⟨b19, hb19, hf⟩ := bd_E hf
          refine hv_getR (pn := 112) X d_Md_arrive_109 fa_Md_166 hb19 ?_
          refine hv_iload_n (pn := 113) X d_Md_arrive_112 ?_
          refine hv_aload_n (pn := 114) X d_Md_arrive_113 ?_
          obtain ⟨b20, hb20, hf⟩ := bd_E hf
          refine hv_getR (pn := 117) X d_Md_arrive_114 fa_Md_166 hb20 ?_
          refine hv_iload_n (pn := 118) X d_Md_arrive_117 ?_
          obtain ⟨v21, hv21, hf⟩ := bd_E hf
          refine hv_iald (pn := 119) X d_Md_arrive_118 hv21 ?_
          refine hv_iload (pn := 121) X d_Md_arrive_119 ?_
          refine hv_ixor (pn := 122) X d_Md_arrive_121 ?_
          obtain ⟨σ22, hσ22, hf⟩ := bd_E hf
          refine hv_iast (pn := 123) X d_Md_arrive_122 hσ22 ?_
          refine hv_aload_n (pn := 124) X d_Md_arrive_123 ?_
          refine hv_iload_n (pn := 125) X d_Md_arrive_124 ?_
          refine hv_aload_n (pn := 126) X d_Md_arrive_125 ?_
          obtain ⟨b23, hb23, hf⟩ := bd_E hf
          refine hv_getR (pn := 129) X d_Md_arrive_126 fa_Md_115 hb23 ?_
          refine hv_iload_n (pn := 130) X d_Md_arrive_129 ?_
          obtain ⟨v24, hv24, hf⟩ := bd_E hf
          refine hv_iald (pn := 131) X d_Md_arrive_130 hv24 ?_
          obtain ⟨_, hr25, hf⟩ := bd_E hf
          obtain ⟨σ26, v27, hσ26, hf⟩ := bd2_E hf
          obtain ⟨hσ26, mσ26⟩ := ho_ck_E hσ26
          refine hv_callV (pn := 134) X d_Md_arrive_131 (c_Md_judge _ _ N σ22 a0 x1 v24 _ _ hσ26) cs_Md_296 q_5_96 rfl qs_Md_judge hr25 (by decide) (by decide) mσ26 (Nat.le_of_ble_eq_true rfl) ?_
          refine hv_istore (pn := 136) (i := 5) (lo' := [some (.ref a0), some (.int x1), some (.int x2), some (.int x3), some (.int x4), some (.int v27)]) X d_Md_arrive_134 ?_
          refine hv_aload_n (pn := 137) X d_Md_arrive_136 ?_
          obtain ⟨b28, hb28, hf⟩ := bd_E hf
          refine hv_getR (pn := 140) X d_Md_arrive_137 fa_Md_137 hb28 ?_
          refine hv_bipush (pn := 142) (v := 8) X d_Md_arrive_140 ?_
          refine hv_iload_n (pn := 143) X d_Md_arrive_142 ?_
          refine hv_imul (pn := 144) X d_Md_arrive_143 ?_
          refine hv_iload (pn := 146) X d_Md_arrive_144 ?_
          refine hv_iadd (pn := 147) X d_Md_arrive_146 ?_
          refine hv_dup2 (pn := 148) X d_Md_arrive_147 rfl rfl ?_
          obtain ⟨v29, hv29, hf⟩ := bd_E hf
          refine hv_iald (pn := 149) X d_Md_arrive_148 hv29 ?_
          refine hv_iconst (pn := 150) (v := 1) X d_Md_arrive_149 ?_
          refine hv_iadd (pn := 151) X d_Md_arrive_150 ?_
          obtain ⟨σ30, hσ30, hf⟩ := bd_E hf
          refine hv_iast (pn := 152) X d_Md_arrive_151 hσ30 ?_
          refine hv_iload (pn := 154) X d_Md_arrive_152 ?_
          cases hf
          exact hv_iret X d_Md_arrive_154 E
        · rw [if_neg hc] at hf
          refine hv_aload_n (pn := 64) X d_Md_arrive_63 ?_
          refine hv_iconst (pn := 65) (v := 2) X d_Md_arrive_64 ?_
          obtain ⟨_, hr33, hf⟩ := bd_E hf
          obtain ⟨σ34, v35, hσ34, hf⟩ := bd2_E hf
          obtain ⟨hσ34, mσ34⟩ := ho_ck_E hσ34
          refine hv_callV (pn := 68) X d_Md_arrive_65 (c_Md_fail _ _ N σ1 a0 2 _ _ hσ34) cs_Md_223 q_5_3 rfl qs_Md_fail hr33 (by decide) (by decide) mσ34 (Nat.le_of_ble_eq_true rfl) ?_
          cases hf
          exact hv_iret X d_Md_arrive_68 E
      · rw [if_neg hc] at hf
        refine hv_drop (i := 1) (lo' := [some (.ref a0), none, some (.int x2), some (.int x3), some (.int x4), none]) ?_
        refine hv_drop (i := 2) (lo' := [some (.ref a0), none, none, some (.int x3), some (.int x4), none]) ?_
        refine hv_drop (i := 3) (lo' := [some (.ref a0), none, none, none, some (.int x4), none]) ?_
        refine hv_drop (i := 4) (lo' := [some (.ref a0), none, none, none, none, none]) ?_
        exact w_Md_arrive_j45 X N σ1 a0  _ hf E
set_option maxHeartbeats 4000000 in
set_option maxRecDepth 100000 in
theorem w_Md_receiver_j25 {k : mk_T} (X : hv_X k b_Md_receiver y_Md_receiver.cls 5 1 22 (some (.int)) y_Md_receiver.name) (N : Nat) (σ : ho_H) (a0 : Nat)  (r : ho_H × Int32) (hf : f_Md_receiver_j25 k.2.1 N σ a0 = some r) (E : hv_end k r.1 (some (.int r.2))) : hv_V k σ 25 [some (.ref a0), none, none, none, none] [] := by
  unfold f_Md_receiver_j25 at hf
  refine hv_aload_n (pn := 26) X d_Md_receiver_25 ?_
  refine hv_iconst (pn := 27) (v := 1) X d_Md_receiver_26 ?_
  obtain ⟨_, hr3, hf⟩ := bd_E hf
  obtain ⟨σ4, v5, hσ4, hf⟩ := bd2_E hf
  obtain ⟨hσ4, mσ4⟩ := ho_ck_E hσ4
  refine hv_callV (pn := 30) X d_Md_receiver_27 (c_Md_fail _ _ N σ a0 1 _ _ hσ4) cs_Md_223 q_5_3 rfl qs_Md_fail hr3 (by decide) (by decide) mσ4 (Nat.le_of_ble_eq_true rfl) ?_
  cases hf
  exact hv_iret X d_Md_receiver_30 E
set_option maxHeartbeats 4000000 in
set_option maxRecDepth 100000 in
theorem w_Md_receiver_j136_in82 {k : mk_T} (X : hv_X k b_Md_receiver y_Md_receiver.cls 5 1 22 (some (.int)) y_Md_receiver.name) (N : Nat) (σ : ho_H) (a0 : Nat) (x1 : Int32) (x4 : Int32) (y0 : Int32)  (r : (Int32 × Int32) ⊕ (Int32)) (hf : f_Md_receiver_j136_in82 k.2.1 N σ a0 x1 x4 y0 = some r) (E : sm (fun s => hv_V k σ 82 [some (.ref a0), some (.int x1), none, some (.int s.1), some (.int s.2)] []) (fun s => hv_V k σ 143 [none, none, none, some (.int s), none] []) r) : hv_V k σ 136 [some (.ref a0), some (.int x1), none, none, some (.int x4)] [.int y0] := by
  unfold f_Md_receiver_j136_in82 at hf
  refine hv_istore_n (pn := 137) (i := 3) (lo' := [some (.ref a0), some (.int x1), none, some (.int y0), some (.int x4)]) X d_Md_receiver_136 ?_
  refine hv_iinc (pn := 140) (i := 4) (v := x4 + 1) (lo' := [some (.ref a0), some (.int x1), none, some (.int y0), some (.int (x4 + 1))]) X d_Md_receiver_137 ?_
  refine hv_goto (tgt := 82) X d_Md_receiver_140 (by decide) ?_
  cases hf
  exact E
set_option maxHeartbeats 4000000 in
set_option maxRecDepth 100000 in
theorem w_Md_receiver_j135_in82 {k : mk_T} (X : hv_X k b_Md_receiver y_Md_receiver.cls 5 1 22 (some (.int)) y_Md_receiver.name) (N : Nat) (σ : ho_H) (a0 : Nat) (x1 : Int32) (x3 : Int32) (x4 : Int32)  (r : (Int32 × Int32) ⊕ (Int32)) (hf : f_Md_receiver_j135_in82 k.2.1 N σ a0 x1 x3 x4 = some r) (E : sm (fun s => hv_V k σ 82 [some (.ref a0), some (.int x1), none, some (.int s.1), some (.int s.2)] []) (fun s => hv_V k σ 143 [none, none, none, some (.int s), none] []) r) : hv_V k σ 135 [some (.ref a0), some (.int x1), none, some (.int x3), some (.int x4)] [] := by
  unfold f_Md_receiver_j135_in82 at hf
  refine hv_iload_n (pn := 136) X d_Md_receiver_135 ?_
  refine hv_drop (i := 3) (lo' := [some (.ref a0), some (.int x1), none, none, some (.int x4)]) ?_
  exact w_Md_receiver_j136_in82 X N σ a0 x1 x4 x3  _ hf E
set_option maxHeartbeats 4000000 in
set_option maxRecDepth 100000 in
theorem w_Md_receiver_l82 {k : mk_T} (X : hv_X k b_Md_receiver y_Md_receiver.cls 5 1 22 (some (.int)) y_Md_receiver.name) (N : Nat) (σ : ho_H) (a0 : Nat) (x1 : Int32) (x3 : Int32) (x4 : Int32) (r : (Int32 × Int32) ⊕ (Int32)) (hf : f_Md_receiver_l82 k.2.1 N σ a0 x1 (x3, x4) = some r) (E : sm (fun s => hv_V k σ 82 [some (.ref a0), some (.int x1), none, some (.int s.1), some (.int s.2)] []) (fun s => hv_V k σ 143 [none, none, none, some (.int s), none] []) r) : hv_V k σ 82 [some (.ref a0), some (.int x1), none, some (.int x3), some (.int x4)] [] := by
  unfold f_Md_receiver_l82 at hf
  try dsimp only at hf
  refine hv_iload (pn := 84) X d_Md_receiver_82 ?_
  refine hv_bipush (pn := 86) (v := 8) X d_Md_receiver_84 ?_
  refine hv_icmp_ge (pn := 89) (tgt := 143) X d_Md_receiver_86 (by decide) (fun hc => ?_) (fun hc => ?_)
  · rw [if_pos hc] at hf
    refine hv_drop (i := 0) (lo' := [none, some (.int x1), none, some (.int x3), some (.int x4)]) ?_
    refine hv_drop (i := 1) (lo' := [none, none, none, some (.int x3), some (.int x4)]) ?_
    refine hv_drop (i := 4) (lo' := [none, none, none, some (.int x3), none]) ?_
    cases hf
    exact E
  · rw [if_neg hc] at hf
    refine hv_aload_n (pn := 90) X d_Md_receiver_89 ?_
    obtain ⟨b7, hb7, hf⟩ := bd_E hf
    refine hv_getR (pn := 93) X d_Md_receiver_90 fa_Md_124 hb7 ?_
    refine hv_bipush (pn := 95) (v := 8) X d_Md_receiver_93 ?_
    refine hv_iload_n (pn := 96) X d_Md_receiver_95 ?_
    refine hv_imul (pn := 97) X d_Md_receiver_96 ?_
    refine hv_iload (pn := 99) X d_Md_receiver_97 ?_
    refine hv_iadd (pn := 100) X d_Md_receiver_99 ?_
    obtain ⟨v8, hv8, hf⟩ := bd_E hf
    refine hv_zald (pn := 101) X d_Md_receiver_100 hv8 ?_
    refine hv_if_eq (pn := 104) (tgt := 135) X d_Md_receiver_101 (by decide) (fun hc => ?_) (fun hc => ?_)
    · rw [if_pos hc] at hf
      exact w_Md_receiver_j135_in82 X N σ a0 x1 x3 x4  _ hf E
    · rw [if_neg hc] at hf
      refine hv_aload_n (pn := 105) X d_Md_receiver_104 ?_
      obtain ⟨b9, hb9, hf⟩ := bd_E hf
      refine hv_getR (pn := 108) X d_Md_receiver_105 fa_Md_131 hb9 ?_
      refine hv_bipush (pn := 110) (v := 8) X d_Md_receiver_108 ?_
      refine hv_iload_n (pn := 111) X d_Md_receiver_110 ?_
      refine hv_imul (pn := 112) X d_Md_receiver_111 ?_
      refine hv_iload (pn := 114) X d_Md_receiver_112 ?_
      refine hv_iadd (pn := 115) X d_Md_receiver_114 ?_
      obtain ⟨v10, hv10, hf⟩ := bd_E hf
      refine hv_iald (pn := 116) X d_Md_receiver_115 hv10 ?_
      refine hv_iload_n (pn := 117) X d_Md_receiver_116 ?_
      refine hv_icmp_le (pn := 120) (tgt := 135) X d_Md_receiver_117 (by decide) (fun hc => ?_) (fun hc => ?_)
      · rw [if_pos hc] at hf
        exact w_Md_receiver_j135_in82 X N σ a0 x1 x3 x4  _ hf E
      · rw [if_neg hc] at hf
        refine hv_aload_n (pn := 121) X d_Md_receiver_120 ?_
        obtain ⟨b11, hb11, hf⟩ := bd_E hf
        refine hv_getR (pn := 124) X d_Md_receiver_121 fa_Md_131 hb11 ?_
        refine hv_bipush (pn := 126) (v := 8) X d_Md_receiver_124 ?_
        refine hv_iload_n (pn := 127) X d_Md_receiver_126 ?_
        refine hv_imul (pn := 128) X d_Md_receiver_127 ?_
        refine hv_iload (pn := 130) X d_Md_receiver_128 ?_
        refine hv_iadd (pn := 131) X d_Md_receiver_130 ?_
        obtain ⟨v12, hv12, hf⟩ := bd_E hf
        refine hv_iald (pn := 132) X d_Md_receiver_131 hv12 ?_
        refine hv_goto (tgt := 136) X d_Md_receiver_132 (by decide) ?_
        refine hv_drop (i := 3) (lo' := [some (.ref a0), some (.int x1), none, none, some (.int x4)]) ?_
        exact w_Md_receiver_j136_in82 X N σ a0 x1 x4 v12  _ hf E
set_option maxHeartbeats 4000000 in
set_option maxRecDepth 100000 in
theorem w_Md_receiver_j76 {k : mk_T} (X : hv_X k b_Md_receiver y_Md_receiver.cls 5 1 22 (some (.int)) y_Md_receiver.name) (N : Nat) (σ : ho_H) (y0 : Int32)  (r : ho_H × Int32) (hf : f_Md_receiver_j76 k.2.1 N σ y0 = some r) (E : hv_end k r.1 (some (.int r.2))) : hv_V k σ 76 [none, none, none, none, none] [.int y0] := by
  unfold f_Md_receiver_j76 at hf
  cases hf
  exact hv_iret X d_Md_receiver_76 E
set_option maxHeartbeats 4000000 in
set_option maxRecDepth 100000 in
theorem c_Md_receiver (l : Launch) (G : ho_G) (N : Nat) (σ : ho_H) (a0 : Nat) (x1 : Int32) (x2 : Int32) (σ' : ho_H) (r : Int32) (hf : f_Md_receiver G N σ a0 x1 x2 = some (σ', r)) : hv_C l G y_Md_receiver (Cond.code y_Md_receiver b_Md_receiver 5 (some (.int)) :: hv_ws) 1 22 [.ref a0, .int x1, .int x2] σ σ' (some (.int r)) := by
  refine hv_met [some (.ref a0), some (.int x1), some (.int x2), none, none] (plainFor_of_name (by decide +kernel)) (by intro v hv; simp at hv; rcases hv with rfl | rfl | rfl <;> rfl) (Nat.le_of_ble_eq_true rfl) rfl ?_
  intro k X hkl hkG E
  subst hkl
  subst hkG
  unfold f_Md_receiver at hf
  refine hv_aload_n (pn := 1) X d_Md_receiver_0 ?_
  refine hv_iconst (pn := 2) (v := 0) X d_Md_receiver_1 ?_
  obtain ⟨σ1, hσ1, hf⟩ := bd_E hf
  refine hv_put (pn := 5) X d_Md_receiver_2 fp_Md_189 hσ1 ?_
  refine hv_iload_n (pn := 6) X d_Md_receiver_5 ?_
  refine hv_iconst (pn := 7) (v := 0) X d_Md_receiver_6 ?_
  refine hv_bipush (pn := 9) (v := 7) X d_Md_receiver_7 ?_
  obtain ⟨v2, hv2, hf⟩ := bd_E hf
  refine hv_callS (pn := 12) X d_Md_receiver_9 (c_Md_within _ _ N σ1 x1 0 7 _ hv2) cs_Md_231 q_5_33 (by decide) (by decide) ⟨Nat.le_refl _, Nat.le_refl _⟩ (Nat.le_of_ble_eq_true rfl) ?_
  refine hv_if_eq (pn := 15) (tgt := 25) X d_Md_receiver_12 (by decide) (fun hc => ?_) (fun hc => ?_)
  · rw [if_pos hc] at hf
    refine hv_drop (i := 1) (lo' := [some (.ref a0), none, some (.int x2), none, none]) ?_
    refine hv_drop (i := 2) (lo' := [some (.ref a0), none, none, none, none]) ?_
    exact w_Md_receiver_j25 X N σ1 a0  _ hf E
  · rw [if_neg hc] at hf
    refine hv_iload_n (pn := 16) X d_Md_receiver_15 ?_
    refine hv_iconst (pn := 17) (v := 0) X d_Md_receiver_16 ?_
    refine hv_bipush (pn := 19) (v := 9) X d_Md_receiver_17 ?_
    obtain ⟨v6, hv6, hf⟩ := bd_E hf
    refine hv_callS (pn := 22) X d_Md_receiver_19 (c_Md_within _ _ N σ1 x2 0 9 _ hv6) cs_Md_231 q_5_33 (by decide) (by decide) ⟨Nat.le_refl _, Nat.le_refl _⟩ (Nat.le_of_ble_eq_true rfl) ?_
    refine hv_if_ne (pn := 25) (tgt := 31) X d_Md_receiver_22 (by decide) (fun hc => ?_) (fun hc => ?_)
    · rw [if_pos hc] at hf
      refine hv_iload_n (pn := 32) X d_Md_receiver_31 ?_
      refine hv_bipush (pn := 34) (v := 7) X d_Md_receiver_32 ?_
      refine hv_icmp_ge (pn := 37) (tgt := 49) X d_Md_receiver_34 (by decide) (fun hc => ?_) (fun hc => ?_)
      · rw [if_pos hc] at hf
        refine hv_iload_n (pn := 50) X d_Md_receiver_49 ?_
        refine hv_bipush (pn := 52) (v := 9) X d_Md_receiver_50 ?_
        refine hv_icmp_ge (pn := 55) (tgt := 77) X d_Md_receiver_52 (by decide) (fun hc => ?_) (fun hc => ?_)
        · rw [if_pos hc] at hf
          refine hv_iconst (pn := 78) (v := (-1)) X d_Md_receiver_77 ?_
          refine hv_istore_n (pn := 79) (i := 3) (lo' := [some (.ref a0), some (.int x1), some (.int x2), some (.int (-1)), none]) X d_Md_receiver_78 ?_
          refine hv_iconst (pn := 80) (v := 0) X d_Md_receiver_79 ?_
          refine hv_istore (pn := 82) (i := 4) (lo' := [some (.ref a0), some (.int x1), some (.int x2), some (.int (-1)), some (.int 0)]) X d_Md_receiver_80 ?_
          refine hv_drop (i := 2) (lo' := [some (.ref a0), some (.int x1), none, some (.int (-1)), some (.int 0)]) ?_
          obtain ⟨x13, he15, hf⟩ := bd_E hf
          refine hv_loop (P := fun s => hv_V k σ1 82 [some (.ref a0), some (.int x1), none, some (.int s.1), some (.int s.2)] []) (Z := fun s => hv_V k σ1 143 [none, none, none, some (.int s), none] []) (fun s r h1 h2 => by obtain ⟨x3, x4⟩ := s; exact w_Md_receiver_l82 X N σ1 a0 x1 x3 x4 r h1 h2) N ((-1), 0) _ he15 ?_
          try dsimp only at hf ⊢
          refine hv_iload_n (pn := 144) X d_Md_receiver_143 ?_
          cases hf
          exact hv_iret X d_Md_receiver_144 E
        · rw [if_neg hc] at hf
          refine hv_iload_n (pn := 56) X d_Md_receiver_55 ?_
          refine hv_bipush (pn := 58) (v := 7) X d_Md_receiver_56 ?_
          refine hv_icmp_ne (pn := 61) (tgt := 70) X d_Md_receiver_58 (by decide) (fun hc => ?_) (fun hc => ?_)
          · rw [if_pos hc] at hf
            refine hv_aload_n (pn := 71) X d_Md_receiver_70 ?_
            obtain ⟨b16, hb16, hf⟩ := bd_E hf
            refine hv_getR (pn := 74) X d_Md_receiver_71 fa_Md_140 hb16 ?_
            refine hv_iload_n (pn := 75) X d_Md_receiver_74 ?_
            obtain ⟨v17, hv17, hf⟩ := bd_E hf
            refine hv_iald (pn := 76) X d_Md_receiver_75 hv17 ?_
            refine hv_drop (i := 0) (lo' := [none, some (.int x1), some (.int x2), none, none]) ?_
            refine hv_drop (i := 1) (lo' := [none, none, some (.int x2), none, none]) ?_
            refine hv_drop (i := 2) (lo' := [none, none, none, none, none]) ?_
            exact w_Md_receiver_j76 X N σ1 v17  _ hf E
          · rw [if_neg hc] at hf
            refine hv_aload_n (pn := 62) X d_Md_receiver_61 ?_
            obtain ⟨b18, hb18, hf⟩ := bd_E hf
            refine hv_getR (pn := 65) X d_Md_receiver_62 fa_Md_149 hb18 ?_
            refine hv_iload_n (pn := 66) X d_Md_receiver_65 ?_
            obtain ⟨v19, hv19, hf⟩ := bd_E hf
            refine hv_iald (pn := 67) X d_Md_receiver_66 hv19 ?_
            refine hv_goto (tgt := 76) X d_Md_receiver_67 (by decide) ?_
            refine hv_drop (i := 0) (lo' := [none, some (.int x1), some (.int x2), none, none]) ?_
            refine hv_drop (i := 1) (lo' := [none, none, some (.int x2), none, none]) ?_
            refine hv_drop (i := 2) (lo' := [none, none, none, none, none]) ?_
            exact w_Md_receiver_j76 X N σ1 v19  _ hf E
      · rw [if_neg hc] at hf
        refine hv_aload_n (pn := 38) X d_Md_receiver_37 ?_
        obtain ⟨b20, hb20, hf⟩ := bd_E hf
        refine hv_getR (pn := 41) X d_Md_receiver_38 fa_Md_137 hb20 ?_
        refine hv_bipush (pn := 43) (v := 8) X d_Md_receiver_41 ?_
        refine hv_iload_n (pn := 44) X d_Md_receiver_43 ?_
        refine hv_imul (pn := 45) X d_Md_receiver_44 ?_
        refine hv_iload_n (pn := 46) X d_Md_receiver_45 ?_
        refine hv_iadd (pn := 47) X d_Md_receiver_46 ?_
        obtain ⟨v21, hv21, hf⟩ := bd_E hf
        refine hv_iald (pn := 48) X d_Md_receiver_47 hv21 ?_
        cases hf
        exact hv_iret X d_Md_receiver_48 E
    · rw [if_neg hc] at hf
      refine hv_drop (i := 1) (lo' := [some (.ref a0), none, some (.int x2), none, none]) ?_
      refine hv_drop (i := 2) (lo' := [some (.ref a0), none, none, none, none]) ?_
      exact w_Md_receiver_j25 X N σ1 a0  _ hf E
set_option maxHeartbeats 4000000 in
set_option maxRecDepth 100000 in
theorem w_Md_isKept_j47 {k : mk_T} (X : hv_X k b_Md_isKept y_Md_isKept.cls 3 1 22 (some (.boolean)) y_Md_isKept.name) (N : Nat) (σ : ho_H) (y0 : Int32)  (r : Int32) (hf : f_Md_isKept_j47 k.2.1 N σ y0 = some r) (E : hv_end k σ (some (.int r))) : hv_V k σ 47 [none, none, none] [.int y0] := by
  unfold f_Md_isKept_j47 at hf
  obtain ⟨_, hz, hf⟩ := bd_E hf
  cases hf
  exact hv_zret X d_Md_isKept_47 (ho_bz_E hz) E
set_option maxHeartbeats 4000000 in
set_option maxRecDepth 100000 in
theorem w_Md_isKept_j46 {k : mk_T} (X : hv_X k b_Md_isKept y_Md_isKept.cls 3 1 22 (some (.boolean)) y_Md_isKept.name) (N : Nat) (σ : ho_H)   (r : Int32) (hf : f_Md_isKept_j46 k.2.1 N σ  = some r) (E : hv_end k σ (some (.int r))) : hv_V k σ 46 [none, none, none] [] := by
  unfold f_Md_isKept_j46 at hf
  refine hv_iconst (pn := 47) (v := 0) X d_Md_isKept_46 ?_
  exact w_Md_isKept_j47 X N σ 0  _ hf E
set_option maxHeartbeats 4000000 in
set_option maxRecDepth 100000 in
theorem w_Md_isKept_j34 {k : mk_T} (X : hv_X k b_Md_isKept y_Md_isKept.cls 3 1 22 (some (.boolean)) y_Md_isKept.name) (N : Nat) (σ : ho_H) (y0 : Int32) (y1 : Int32) (y2 : Int32)  (r : Int32) (hf : f_Md_isKept_j34 k.2.1 N σ y0 y1 y2 = some r) (E : hv_end k σ (some (.int r))) : hv_V k σ 34 [none, none, none] [.int y0, .int y1, .int y2] := by
  unfold f_Md_isKept_j34 at hf
  refine hv_iconst (pn := 35) (v := 1) X d_Md_isKept_34 ?_
  refine hv_isub (pn := 36) X d_Md_isKept_35 ?_
  obtain ⟨v4, hv4, hf⟩ := bd_E hf
  refine hv_callS (pn := 39) X d_Md_isKept_36 (c_Md_within _ _ N σ y2 y1 (y0 - 1) _ hv4) cs_Md_231 q_5_33 (by decide) (by decide) ⟨Nat.le_refl _, Nat.le_refl _⟩ (Nat.le_of_ble_eq_true rfl) ?_
  refine hv_if_eq (pn := 42) (tgt := 46) X d_Md_isKept_39 (by decide) (fun hc => ?_) (fun hc => ?_)
  · rw [if_pos hc] at hf
    exact w_Md_isKept_j46 X N σ   _ hf E
  · rw [if_neg hc] at hf
    refine hv_iconst (pn := 43) (v := 1) X d_Md_isKept_42 ?_
    refine hv_goto (tgt := 47) X d_Md_isKept_43 (by decide) ?_
    exact w_Md_isKept_j47 X N σ 1  _ hf E
set_option maxHeartbeats 4000000 in
set_option maxRecDepth 100000 in
theorem c_Md_isKept (l : Launch) (G : ho_G) (N : Nat) (σ : ho_H) (a0 : Nat) (x1 : Int32) (x2 : Int32) (r : Int32) (hf : f_Md_isKept G N σ a0 x1 x2 = some r) : hv_C l G y_Md_isKept (Cond.code y_Md_isKept b_Md_isKept 3 (some (.boolean)) :: hv_ws) 1 22 [.ref a0, .int x1, .int x2] σ σ (some (.int r)) := by
  refine hv_met [some (.ref a0), some (.int x1), some (.int x2)] (plainFor_of_name (by decide +kernel)) (by intro v hv; simp at hv; rcases hv with rfl | rfl | rfl <;> rfl) (Nat.le_of_ble_eq_true rfl) rfl ?_
  intro k X hkl hkG E
  subst hkl
  subst hkG
  unfold f_Md_isKept at hf
  refine hv_iload_n (pn := 1) X d_Md_isKept_0 ?_
  refine hv_iconst (pn := 2) (v := 0) X d_Md_isKept_1 ?_
  refine hv_bipush (pn := 4) (v := 7) X d_Md_isKept_2 ?_
  obtain ⟨v1, hv1, hf⟩ := bd_E hf
  refine hv_callS (pn := 7) X d_Md_isKept_4 (c_Md_within _ _ N σ x1 0 7 _ hv1) cs_Md_231 q_5_33 (by decide) (by decide) ⟨Nat.le_refl _, Nat.le_refl _⟩ (Nat.le_of_ble_eq_true rfl) ?_
  refine hv_if_eq (pn := 10) (tgt := 46) X d_Md_isKept_7 (by decide) (fun hc => ?_) (fun hc => ?_)
  · rw [if_pos hc] at hf
    refine hv_drop (i := 0) (lo' := [none, some (.int x1), some (.int x2)]) ?_
    refine hv_drop (i := 1) (lo' := [none, none, some (.int x2)]) ?_
    refine hv_drop (i := 2) (lo' := [none, none, none]) ?_
    exact w_Md_isKept_j46 X N σ   _ hf E
  · rw [if_neg hc] at hf
    refine hv_iload_n (pn := 11) X d_Md_isKept_10 ?_
    refine hv_iconst (pn := 12) (v := 0) X d_Md_isKept_11 ?_
    refine hv_aload_n (pn := 13) X d_Md_isKept_12 ?_
    obtain ⟨b2, hb2, hf⟩ := bd_E hf
    refine hv_getR (pn := 16) X d_Md_isKept_13 fa_Md_149 hb2 ?_
    refine hv_iload_n (pn := 17) X d_Md_isKept_16 ?_
    obtain ⟨v3, hv3, hf⟩ := bd_E hf
    refine hv_iald (pn := 18) X d_Md_isKept_17 hv3 ?_
    refine hv_bipush (pn := 20) (v := 100) X d_Md_isKept_18 ?_
    refine hv_icmp_ge (pn := 23) (tgt := 32) X d_Md_isKept_20 (by decide) (fun hc => ?_) (fun hc => ?_)
    · rw [if_pos hc] at hf
      refine hv_bipush (pn := 34) (v := 100) X d_Md_isKept_32 ?_
      refine hv_drop (i := 0) (lo' := [none, some (.int x1), some (.int x2)]) ?_
      refine hv_drop (i := 1) (lo' := [none, none, some (.int x2)]) ?_
      refine hv_drop (i := 2) (lo' := [none, none, none]) ?_
      exact w_Md_isKept_j34 X N σ 100 0 x2  _ hf E
    · rw [if_neg hc] at hf
      refine hv_aload_n (pn := 24) X d_Md_isKept_23 ?_
      obtain ⟨b5, hb5, hf⟩ := bd_E hf
      refine hv_getR (pn := 27) X d_Md_isKept_24 fa_Md_149 hb5 ?_
      refine hv_iload_n (pn := 28) X d_Md_isKept_27 ?_
      obtain ⟨v6, hv6, hf⟩ := bd_E hf
      refine hv_iald (pn := 29) X d_Md_isKept_28 hv6 ?_
      refine hv_goto (tgt := 34) X d_Md_isKept_29 (by decide) ?_
      refine hv_drop (i := 0) (lo' := [none, some (.int x1), some (.int x2)]) ?_
      refine hv_drop (i := 1) (lo' := [none, none, some (.int x2)]) ?_
      refine hv_drop (i := 2) (lo' := [none, none, none]) ?_
      exact w_Md_isKept_j34 X N σ v6 0 x2  _ hf E
set_option maxHeartbeats 4000000 in
set_option maxRecDepth 100000 in
theorem w_Md_released_j23 {k : mk_T} (X : hv_X k b_Md_released y_Md_released.cls 5 2 44 (some (.int)) y_Md_released.name) (N : Nat) (σ : ho_H) (a0 : Nat)  (r : ho_H × Int32) (hf : f_Md_released_j23 k.2.1 N σ a0 = some r) (E : hv_end k r.1 (some (.int r.2))) : hv_V k σ 23 [some (.ref a0), none, none, none, none] [] := by
  unfold f_Md_released_j23 at hf
  refine hv_aload_n (pn := 24) X d_Md_released_23 ?_
  refine hv_iconst (pn := 25) (v := 1) X d_Md_released_24 ?_
  obtain ⟨_, hr4, hf⟩ := bd_E hf
  obtain ⟨σ5, v6, hσ5, hf⟩ := bd2_E hf
  obtain ⟨hσ5, mσ5⟩ := ho_ck_E hσ5
  refine hv_callV (pn := 28) X d_Md_released_25 (c_Md_fail _ _ N σ a0 1 _ _ hσ5) cs_Md_223 q_5_3 rfl qs_Md_fail hr4 (by decide) (by decide) mσ5 (Nat.le_of_ble_eq_true rfl) ?_
  cases hf
  exact hv_iret X d_Md_released_28 E
set_option maxHeartbeats 4000000 in
set_option maxRecDepth 100000 in
theorem w_Md_released_j85 {k : mk_T} (X : hv_X k b_Md_released y_Md_released.cls 5 2 44 (some (.int)) y_Md_released.name) (N : Nat) (σ : ho_H) (y0 : Int32)  (r : ho_H × Int32) (hf : f_Md_released_j85 k.2.1 N σ y0 = some r) (E : hv_end k r.1 (some (.int r.2))) : hv_V k σ 85 [none, none, none, none, none] [.int y0] := by
  unfold f_Md_released_j85 at hf
  cases hf
  exact hv_iret X d_Md_released_85 E
set_option maxHeartbeats 4000000 in
set_option maxRecDepth 100000 in
theorem c_Md_released (l : Launch) (G : ho_G) (N : Nat) (σ : ho_H) (a0 : Nat) (x1 : Int32) (x2 : Int32) (x3 : Int32) (σ' : ho_H) (r : Int32) (hf : f_Md_released G N σ a0 x1 x2 x3 = some (σ', r)) : hv_C l G y_Md_released (Cond.code y_Md_released b_Md_released 5 (some (.int)) :: hv_ws) 2 44 [.ref a0, .int x1, .int x2, .int x3] σ σ' (some (.int r)) := by
  refine hv_met [some (.ref a0), some (.int x1), some (.int x2), some (.int x3), none] (plainFor_of_name (by decide +kernel)) (by intro v hv; simp at hv; rcases hv with rfl | rfl | rfl | rfl <;> rfl) (Nat.le_of_ble_eq_true rfl) rfl ?_
  intro k X hkl hkG E
  subst hkl
  subst hkG
  unfold f_Md_released at hf
  refine hv_aload_n (pn := 1) X d_Md_released_0 ?_
  refine hv_iconst (pn := 2) (v := 0) X d_Md_released_1 ?_
  obtain ⟨σ1, hσ1, hf⟩ := bd_E hf
  refine hv_put (pn := 5) X d_Md_released_2 fp_Md_189 hσ1 ?_
  refine hv_aload_n (pn := 6) X d_Md_released_5 ?_
  refine hv_iload_n (pn := 7) X d_Md_released_6 ?_
  refine hv_iload_n (pn := 8) X d_Md_released_7 ?_
  obtain ⟨_, hr2, hf⟩ := bd_E hf
  obtain ⟨v3, hv3, hf⟩ := bd_E hf
  refine hv_callV (pn := 11) X d_Md_released_8 (c_Md_isKept _ _ N σ1 a0 x1 x2 _ hv3) cs_Md_299 q_5_152 rfl qs_Md_isKept hr2 (by decide) (by decide) ⟨Nat.le_refl _, Nat.le_refl _⟩ (Nat.le_of_ble_eq_true rfl) ?_
  refine hv_if_eq (pn := 14) (tgt := 23) X d_Md_released_11 (by decide) (fun hc => ?_) (fun hc => ?_)
  · rw [if_pos hc] at hf
    refine hv_drop (i := 1) (lo' := [some (.ref a0), none, some (.int x2), some (.int x3), none]) ?_
    refine hv_drop (i := 2) (lo' := [some (.ref a0), none, none, some (.int x3), none]) ?_
    refine hv_drop (i := 3) (lo' := [some (.ref a0), none, none, none, none]) ?_
    exact w_Md_released_j23 X N σ1 a0  _ hf E
  · rw [if_neg hc] at hf
    refine hv_iload_n (pn := 15) X d_Md_released_14 ?_
    refine hv_iconst (pn := 16) (v := 0) X d_Md_released_15 ?_
    refine hv_iconst (pn := 17) (v := 2) X d_Md_released_16 ?_
    obtain ⟨v7, hv7, hf⟩ := bd_E hf
    refine hv_callS (pn := 20) X d_Md_released_17 (c_Md_within _ _ N σ1 x3 0 2 _ hv7) cs_Md_231 q_5_33 (by decide) (by decide) ⟨Nat.le_refl _, Nat.le_refl _⟩ (Nat.le_of_ble_eq_true rfl) ?_
    refine hv_if_ne (pn := 23) (tgt := 29) X d_Md_released_20 (by decide) (fun hc => ?_) (fun hc => ?_)
    · rw [if_pos hc] at hf
      refine hv_bipush (pn := 31) (v := 68) X d_Md_released_29 ?_
      refine hv_bipush (pn := 33) (v := 100) X d_Md_released_31 ?_
      refine hv_iload_n (pn := 34) X d_Md_released_33 ?_
      refine hv_imul (pn := 35) X d_Md_released_34 ?_
      refine hv_iload_n (pn := 36) X d_Md_released_35 ?_
      refine hv_iadd (pn := 37) X d_Md_released_36 ?_
      refine hv_imul (pn := 38) X d_Md_released_37 ?_
      refine hv_istore (pn := 40) (i := 4) (lo' := [some (.ref a0), some (.int x1), some (.int x2), some (.int x3), some (.int (68 * ((100 * x1) + x2)))]) X d_Md_released_38 ?_
      refine hv_iload_n (pn := 41) X d_Md_released_40 ?_
      refine hv_if_ne (pn := 44) (tgt := 59) X d_Md_released_41 (by decide) (fun hc => ?_) (fun hc => ?_)
      · rw [if_pos hc] at hf
        refine hv_iload_n (pn := 60) X d_Md_released_59 ?_
        refine hv_iconst (pn := 61) (v := 1) X d_Md_released_60 ?_
        refine hv_icmp_ne (pn := 64) (tgt := 76) X d_Md_released_61 (by decide) (fun hc => ?_) (fun hc => ?_)
        · rw [if_pos hc] at hf
          refine hv_aload_n (pn := 77) X d_Md_released_76 ?_
          obtain ⟨b8, hb8, hf⟩ := bd_E hf
          refine hv_getR (pn := 80) X d_Md_released_77 fa_Md_163 hb8 ?_
          refine hv_iload (pn := 82) X d_Md_released_80 ?_
          refine hv_iconst (pn := 83) (v := 5) X d_Md_released_82 ?_
          refine hv_iadd (pn := 84) X d_Md_released_83 ?_
          obtain ⟨v9, hv9, hf⟩ := bd_E hf
          refine hv_iald (pn := 85) X d_Md_released_84 hv9 ?_
          refine hv_drop (i := 0) (lo' := [none, some (.int x1), some (.int x2), some (.int x3), some (.int (68 * ((100 * x1) + x2)))]) ?_
          refine hv_drop (i := 1) (lo' := [none, none, some (.int x2), some (.int x3), some (.int (68 * ((100 * x1) + x2)))]) ?_
          refine hv_drop (i := 2) (lo' := [none, none, none, some (.int x3), some (.int (68 * ((100 * x1) + x2)))]) ?_
          refine hv_drop (i := 3) (lo' := [none, none, none, none, some (.int (68 * ((100 * x1) + x2)))]) ?_
          refine hv_drop (i := 4) (lo' := [none, none, none, none, none]) ?_
          exact w_Md_released_j85 X N σ1 v9  _ hf E
        · rw [if_neg hc] at hf
          refine hv_aload_n (pn := 65) X d_Md_released_64 ?_
          obtain ⟨b10, hb10, hf⟩ := bd_E hf
          refine hv_getR (pn := 68) X d_Md_released_65 fa_Md_163 hb10 ?_
          refine hv_iload (pn := 70) X d_Md_released_68 ?_
          refine hv_iconst (pn := 71) (v := 4) X d_Md_released_70 ?_
          refine hv_iadd (pn := 72) X d_Md_released_71 ?_
          obtain ⟨v11, hv11, hf⟩ := bd_E hf
          refine hv_iald (pn := 73) X d_Md_released_72 hv11 ?_
          refine hv_goto (tgt := 85) X d_Md_released_73 (by decide) ?_
          refine hv_drop (i := 0) (lo' := [none, some (.int x1), some (.int x2), some (.int x3), some (.int (68 * ((100 * x1) + x2)))]) ?_
          refine hv_drop (i := 1) (lo' := [none, none, some (.int x2), some (.int x3), some (.int (68 * ((100 * x1) + x2)))]) ?_
          refine hv_drop (i := 2) (lo' := [none, none, none, some (.int x3), some (.int (68 * ((100 * x1) + x2)))]) ?_
          refine hv_drop (i := 3) (lo' := [none, none, none, none, some (.int (68 * ((100 * x1) + x2)))]) ?_
          refine hv_drop (i := 4) (lo' := [none, none, none, none, none]) ?_
          exact w_Md_released_j85 X N σ1 v11  _ hf E
      · rw [if_neg hc] at hf
        refine hv_aload_n (pn := 45) X d_Md_released_44 ?_
        obtain ⟨b12, hb12, hf⟩ := bd_E hf
        refine hv_getR (pn := 48) X d_Md_released_45 fa_Md_152 hb12 ?_
        refine hv_sipush (pn := 51) (v := 1024) X d_Md_released_48 ?_
        refine hv_iload_n (pn := 52) X d_Md_released_51 ?_
        refine hv_imul (pn := 53) X d_Md_released_52 ?_
        refine hv_iload_n (pn := 54) X d_Md_released_53 ?_
        refine hv_iadd (pn := 55) X d_Md_released_54 ?_
        obtain ⟨v13, hv13, hf⟩ := bd_E hf
        refine hv_iald (pn := 56) X d_Md_released_55 hv13 ?_
        refine hv_goto (tgt := 85) X d_Md_released_56 (by decide) ?_
        refine hv_drop (i := 0) (lo' := [none, some (.int x1), some (.int x2), some (.int x3), some (.int (68 * ((100 * x1) + x2)))]) ?_
        refine hv_drop (i := 1) (lo' := [none, none, some (.int x2), some (.int x3), some (.int (68 * ((100 * x1) + x2)))]) ?_
        refine hv_drop (i := 2) (lo' := [none, none, none, some (.int x3), some (.int (68 * ((100 * x1) + x2)))]) ?_
        refine hv_drop (i := 3) (lo' := [none, none, none, none, some (.int (68 * ((100 * x1) + x2)))]) ?_
        refine hv_drop (i := 4) (lo' := [none, none, none, none, none]) ?_
        exact w_Md_released_j85 X N σ1 v13  _ hf E
    · rw [if_neg hc] at hf
      refine hv_drop (i := 1) (lo' := [some (.ref a0), none, some (.int x2), some (.int x3), none]) ?_
      refine hv_drop (i := 2) (lo' := [some (.ref a0), none, none, some (.int x3), none]) ?_
      refine hv_drop (i := 3) (lo' := [some (.ref a0), none, none, none, none]) ?_
      exact w_Md_released_j23 X N σ1 a0  _ hf E
set_option maxHeartbeats 4000000 in
set_option maxRecDepth 100000 in
theorem w_Md_releasedByte_j40 {k : mk_T} (X : hv_X k b_Md_releasedByte y_Md_releasedByte.cls 4 2 44 (some (.int)) y_Md_releasedByte.name) (N : Nat) (σ : ho_H) (a0 : Nat)  (r : ho_H × Int32) (hf : f_Md_releasedByte_j40 k.2.1 N σ a0 = some r) (E : hv_end k r.1 (some (.int r.2))) : hv_V k σ 40 [some (.ref a0), none, none, none] [] := by
  unfold f_Md_releasedByte_j40 at hf
  refine hv_aload_n (pn := 41) X d_Md_releasedByte_40 ?_
  refine hv_iconst (pn := 42) (v := 1) X d_Md_releasedByte_41 ?_
  obtain ⟨_, hr4, hf⟩ := bd_E hf
  obtain ⟨σ5, v6, hσ5, hf⟩ := bd2_E hf
  obtain ⟨hσ5, mσ5⟩ := ho_ck_E hσ5
  refine hv_callV (pn := 45) X d_Md_releasedByte_42 (c_Md_fail _ _ N σ a0 1 _ _ hσ5) cs_Md_223 q_5_3 rfl qs_Md_fail hr4 (by decide) (by decide) mσ5 (Nat.le_of_ble_eq_true rfl) ?_
  cases hf
  exact hv_iret X d_Md_releasedByte_45 E
set_option maxHeartbeats 4000000 in
set_option maxRecDepth 100000 in
theorem c_Md_releasedByte (l : Launch) (G : ho_G) (N : Nat) (σ : ho_H) (a0 : Nat) (x1 : Int32) (x2 : Int32) (x3 : Int32) (σ' : ho_H) (r : Int32) (hf : f_Md_releasedByte G N σ a0 x1 x2 x3 = some (σ', r)) : hv_C l G y_Md_releasedByte (Cond.code y_Md_releasedByte b_Md_releasedByte 4 (some (.int)) :: hv_ws) 2 44 [.ref a0, .int x1, .int x2, .int x3] σ σ' (some (.int r)) := by
  refine hv_met [some (.ref a0), some (.int x1), some (.int x2), some (.int x3)] (plainFor_of_name (by decide +kernel)) (by intro v hv; simp at hv; rcases hv with rfl | rfl | rfl | rfl <;> rfl) (Nat.le_of_ble_eq_true rfl) rfl ?_
  intro k X hkl hkG E
  subst hkl
  subst hkG
  unfold f_Md_releasedByte at hf
  refine hv_aload_n (pn := 1) X d_Md_releasedByte_0 ?_
  refine hv_iconst (pn := 2) (v := 0) X d_Md_releasedByte_1 ?_
  obtain ⟨σ1, hσ1, hf⟩ := bd_E hf
  refine hv_put (pn := 5) X d_Md_releasedByte_2 fp_Md_189 hσ1 ?_
  refine hv_aload_n (pn := 6) X d_Md_releasedByte_5 ?_
  refine hv_iload_n (pn := 7) X d_Md_releasedByte_6 ?_
  refine hv_iload_n (pn := 8) X d_Md_releasedByte_7 ?_
  obtain ⟨_, hr2, hf⟩ := bd_E hf
  obtain ⟨v3, hv3, hf⟩ := bd_E hf
  refine hv_callV (pn := 11) X d_Md_releasedByte_8 (c_Md_isKept _ _ N σ1 a0 x1 x2 _ hv3) cs_Md_299 q_5_152 rfl qs_Md_isKept hr2 (by decide) (by decide) ⟨Nat.le_refl _, Nat.le_refl _⟩ (Nat.le_of_ble_eq_true rfl) ?_
  refine hv_if_eq (pn := 14) (tgt := 40) X d_Md_releasedByte_11 (by decide) (fun hc => ?_) (fun hc => ?_)
  · rw [if_pos hc] at hf
    refine hv_drop (i := 1) (lo' := [some (.ref a0), none, some (.int x2), some (.int x3)]) ?_
    refine hv_drop (i := 2) (lo' := [some (.ref a0), none, none, some (.int x3)]) ?_
    refine hv_drop (i := 3) (lo' := [some (.ref a0), none, none, none]) ?_
    exact w_Md_releasedByte_j40 X N σ1 a0  _ hf E
  · rw [if_neg hc] at hf
    refine hv_iload_n (pn := 15) X d_Md_releasedByte_14 ?_
    refine hv_iconst (pn := 16) (v := 0) X d_Md_releasedByte_15 ?_
    refine hv_aload_n (pn := 17) X d_Md_releasedByte_16 ?_
    obtain ⟨b7, hb7, hf⟩ := bd_E hf
    refine hv_getR (pn := 20) X d_Md_releasedByte_17 fa_Md_163 hb7 ?_
    refine hv_bipush (pn := 22) (v := 68) X d_Md_releasedByte_20 ?_
    refine hv_bipush (pn := 24) (v := 100) X d_Md_releasedByte_22 ?_
    refine hv_iload_n (pn := 25) X d_Md_releasedByte_24 ?_
    refine hv_imul (pn := 26) X d_Md_releasedByte_25 ?_
    refine hv_iload_n (pn := 27) X d_Md_releasedByte_26 ?_
    refine hv_iadd (pn := 28) X d_Md_releasedByte_27 ?_
    refine hv_imul (pn := 29) X d_Md_releasedByte_28 ?_
    refine hv_iconst (pn := 30) (v := 5) X d_Md_releasedByte_29 ?_
    refine hv_iadd (pn := 31) X d_Md_releasedByte_30 ?_
    obtain ⟨v8, hv8, hf⟩ := bd_E hf
    refine hv_iald (pn := 32) X d_Md_releasedByte_31 hv8 ?_
    refine hv_iconst (pn := 33) (v := 1) X d_Md_releasedByte_32 ?_
    refine hv_isub (pn := 34) X d_Md_releasedByte_33 ?_
    obtain ⟨v9, hv9, hf⟩ := bd_E hf
    refine hv_callS (pn := 37) X d_Md_releasedByte_34 (c_Md_within _ _ N σ1 x3 0 (v8 - 1) _ hv9) cs_Md_231 q_5_33 (by decide) (by decide) ⟨Nat.le_refl _, Nat.le_refl _⟩ (Nat.le_of_ble_eq_true rfl) ?_
    refine hv_if_ne (pn := 40) (tgt := 46) X d_Md_releasedByte_37 (by decide) (fun hc => ?_) (fun hc => ?_)
    · rw [if_pos hc] at hf
      refine hv_aload_n (pn := 47) X d_Md_releasedByte_46 ?_
      obtain ⟨b10, hb10, hf⟩ := bd_E hf
      refine hv_getR (pn := 50) X d_Md_releasedByte_47 fa_Md_163 hb10 ?_
      refine hv_bipush (pn := 52) (v := 68) X d_Md_releasedByte_50 ?_
      refine hv_bipush (pn := 54) (v := 100) X d_Md_releasedByte_52 ?_
      refine hv_iload_n (pn := 55) X d_Md_releasedByte_54 ?_
      refine hv_imul (pn := 56) X d_Md_releasedByte_55 ?_
      refine hv_iload_n (pn := 57) X d_Md_releasedByte_56 ?_
      refine hv_iadd (pn := 58) X d_Md_releasedByte_57 ?_
      refine hv_imul (pn := 59) X d_Md_releasedByte_58 ?_
      refine hv_bipush (pn := 61) (v := 6) X d_Md_releasedByte_59 ?_
      refine hv_iadd (pn := 62) X d_Md_releasedByte_61 ?_
      refine hv_iload_n (pn := 63) X d_Md_releasedByte_62 ?_
      refine hv_iadd (pn := 64) X d_Md_releasedByte_63 ?_
      obtain ⟨v11, hv11, hf⟩ := bd_E hf
      refine hv_iald (pn := 65) X d_Md_releasedByte_64 hv11 ?_
      cases hf
      exact hv_iret X d_Md_releasedByte_65 E
    · rw [if_neg hc] at hf
      refine hv_drop (i := 1) (lo' := [some (.ref a0), none, some (.int x2), some (.int x3)]) ?_
      refine hv_drop (i := 2) (lo' := [some (.ref a0), none, none, some (.int x3)]) ?_
      refine hv_drop (i := 3) (lo' := [some (.ref a0), none, none, none]) ?_
      exact w_Md_releasedByte_j40 X N σ1 a0  _ hf E
set_option maxHeartbeats 4000000 in
set_option maxRecDepth 100000 in
theorem w_Md_count_j55 {k : mk_T} (X : hv_X k b_Md_count y_Md_count.cls 2 1 22 (some (.int)) y_Md_count.name) (N : Nat) (σ : ho_H) (y0 : Int32)  (r : ho_H × Int32) (hf : f_Md_count_j55 k.2.1 N σ y0 = some r) (E : hv_end k r.1 (some (.int r.2))) : hv_V k σ 55 [none, none] [.int y0] := by
  unfold f_Md_count_j55 at hf
  cases hf
  exact hv_iret X d_Md_count_55 E
set_option maxHeartbeats 4000000 in
set_option maxRecDepth 100000 in
theorem c_Md_count (l : Launch) (G : ho_G) (N : Nat) (σ : ho_H) (a0 : Nat) (x1 : Int32) (σ' : ho_H) (r : Int32) (hf : f_Md_count G N σ a0 x1 = some (σ', r)) : hv_C l G y_Md_count (Cond.code y_Md_count b_Md_count 2 (some (.int)) :: hv_ws) 1 22 [.ref a0, .int x1] σ σ' (some (.int r)) := by
  refine hv_met [some (.ref a0), some (.int x1)] (plainFor_of_name (by decide +kernel)) (by intro v hv; simp at hv; rcases hv with rfl | rfl <;> rfl) (Nat.le_of_ble_eq_true rfl) rfl ?_
  intro k X hkl hkG E
  subst hkl
  subst hkG
  unfold f_Md_count at hf
  refine hv_aload_n (pn := 1) X d_Md_count_0 ?_
  refine hv_iconst (pn := 2) (v := 0) X d_Md_count_1 ?_
  obtain ⟨σ1, hσ1, hf⟩ := bd_E hf
  refine hv_put (pn := 5) X d_Md_count_2 fp_Md_189 hσ1 ?_
  refine hv_iload_n (pn := 6) X d_Md_count_5 ?_
  refine hv_iconst (pn := 7) (v := 0) X d_Md_count_6 ?_
  refine hv_iconst (pn := 8) (v := 3) X d_Md_count_7 ?_
  obtain ⟨v2, hv2, hf⟩ := bd_E hf
  refine hv_callS (pn := 11) X d_Md_count_8 (c_Md_within _ _ N σ1 x1 0 3 _ hv2) cs_Md_231 q_5_33 (by decide) (by decide) ⟨Nat.le_refl _, Nat.le_refl _⟩ (Nat.le_of_ble_eq_true rfl) ?_
  refine hv_if_ne (pn := 14) (tgt := 16) X d_Md_count_11 (by decide) (fun hc => ?_) (fun hc => ?_)
  · rw [if_pos hc] at hf
    refine hv_iload_n (pn := 17) X d_Md_count_16 ?_
    refine hv_if_ne (pn := 20) (tgt := 27) X d_Md_count_17 (by decide) (fun hc => ?_) (fun hc => ?_)
    · rw [if_pos hc] at hf
      refine hv_iload_n (pn := 28) X d_Md_count_27 ?_
      refine hv_iconst (pn := 29) (v := 1) X d_Md_count_28 ?_
      refine hv_icmp_ne (pn := 32) (tgt := 39) X d_Md_count_29 (by decide) (fun hc => ?_) (fun hc => ?_)
      · rw [if_pos hc] at hf
        refine hv_iload_n (pn := 40) X d_Md_count_39 ?_
        refine hv_iconst (pn := 41) (v := 2) X d_Md_count_40 ?_
        refine hv_icmp_ne (pn := 44) (tgt := 51) X d_Md_count_41 (by decide) (fun hc => ?_) (fun hc => ?_)
        · rw [if_pos hc] at hf
          refine hv_aload_n (pn := 52) X d_Md_count_51 ?_
          obtain ⟨v3, hv3, hf⟩ := bd_E hf
          refine hv_getI (pn := 55) X d_Md_count_52 fa_Md_249 hv3 ?_
          refine hv_drop (i := 0) (lo' := [none, some (.int x1)]) ?_
          refine hv_drop (i := 1) (lo' := [none, none]) ?_
          exact w_Md_count_j55 X N σ1 v3  _ hf E
        · rw [if_neg hc] at hf
          refine hv_aload_n (pn := 45) X d_Md_count_44 ?_
          obtain ⟨v4, hv4, hf⟩ := bd_E hf
          refine hv_getI (pn := 48) X d_Md_count_45 fa_Md_220 hv4 ?_
          refine hv_goto (tgt := 55) X d_Md_count_48 (by decide) ?_
          refine hv_drop (i := 0) (lo' := [none, some (.int x1)]) ?_
          refine hv_drop (i := 1) (lo' := [none, none]) ?_
          exact w_Md_count_j55 X N σ1 v4  _ hf E
      · rw [if_neg hc] at hf
        refine hv_aload_n (pn := 33) X d_Md_count_32 ?_
        obtain ⟨_, hr5, hf⟩ := bd_E hf
        obtain ⟨v6, hv6, hf⟩ := bd_E hf
        refine hv_callV (pn := 36) X d_Md_count_33 (c_Md_interval _ _ N σ1 a0 _ hv6) cs_Md_235 q_5_49 rfl qs_Md_interval hr5 (by decide) (by decide) ⟨Nat.le_refl _, Nat.le_refl _⟩ (Nat.le_of_ble_eq_true rfl) ?_
        refine hv_goto (tgt := 55) X d_Md_count_36 (by decide) ?_
        refine hv_drop (i := 0) (lo' := [none, some (.int x1)]) ?_
        refine hv_drop (i := 1) (lo' := [none, none]) ?_
        exact w_Md_count_j55 X N σ1 v6  _ hf E
    · rw [if_neg hc] at hf
      refine hv_aload_n (pn := 21) X d_Md_count_20 ?_
      obtain ⟨v7, hv7, hf⟩ := bd_E hf
      refine hv_getI (pn := 24) X d_Md_count_21 fa_Md_217 hv7 ?_
      refine hv_goto (tgt := 55) X d_Md_count_24 (by decide) ?_
      refine hv_drop (i := 0) (lo' := [none, some (.int x1)]) ?_
      refine hv_drop (i := 1) (lo' := [none, none]) ?_
      exact w_Md_count_j55 X N σ1 v7  _ hf E
  · rw [if_neg hc] at hf
    refine hv_iconst (pn := 15) (v := (-1)) X d_Md_count_14 ?_
    cases hf
    exact hv_iret X d_Md_count_15 E
