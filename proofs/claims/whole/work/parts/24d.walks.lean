set_option maxHeartbeats 4000000 in
set_option maxRecDepth 100000 in
theorem c_Md_init (l : Launch) (G : ho_G) (N : Nat) (σ : ho_H) (a0 : Nat) (x1 : Int32) (x2 : Int32) (x3 : Int32) (σ' : ho_H) (hf : f_Md_init G N σ a0 x1 x2 x3 = some σ') : hv_C l G y_Md_init (Cond.code y_Md_init b_Md_init 4 none :: hv_ws) 1 21 [.ref a0, .int x1, .int x2, .int x3] σ σ' (none) := by
  refine hv_met [some (.ref a0), some (.int x1), some (.int x2), some (.int x3)] (plainFor_of_name (by decide +kernel)) (by intro v hv; simp at hv; rcases hv with rfl | rfl | rfl | rfl <;> rfl) (Nat.le_of_ble_eq_true rfl) rfl ?_
  intro k X hkl hkG E
  subst hkl
  subst hkG
  unfold f_Md_init at hf
  refine hv_aload_n (pn := 1) X d_Md_init_0 ?_
  refine hv_oinit (pn := 4) X d_Md_init_1 q_4_33 q_1_30 q_1_31 (by decide) (by decide) (Nat.le_of_ble_eq_true rfl) ?_
  refine hv_aload_n (pn := 5) X d_Md_init_4 ?_
  refine hv_bipush (pn := 7) (v := 64) X d_Md_init_5 ?_
  obtain ⟨σ1, b2, hσ1, hf⟩ := bd2_E hf
  refine hv_nwI (pn := 9) X d_Md_init_7 q_1_83 hσ1 ?_
  refine hv_dup (pn := 10) X d_Md_init_9 rfl ?_
  refine hv_iconst (pn := 11) (v := 0) X d_Md_init_10 ?_
  refine hv_ldc (pn := 13) X d_Md_init_11 q_4_34 ?_
  obtain ⟨σ3, hσ3, hf⟩ := bd_E hf
  refine hv_iast (pn := 14) X d_Md_init_13 hσ3 ?_
  refine hv_dup (pn := 15) X d_Md_init_14 rfl ?_
  refine hv_iconst (pn := 16) (v := 1) X d_Md_init_15 ?_
  refine hv_ldc (pn := 18) X d_Md_init_16 q_4_35 ?_
  obtain ⟨σ4, hσ4, hf⟩ := bd_E hf
  refine hv_iast (pn := 19) X d_Md_init_18 hσ4 ?_
  refine hv_dup (pn := 20) X d_Md_init_19 rfl ?_
  refine hv_iconst (pn := 21) (v := 2) X d_Md_init_20 ?_
  refine hv_ldc (pn := 23) X d_Md_init_21 q_4_36 ?_
  obtain ⟨σ5, hσ5, hf⟩ := bd_E hf
  refine hv_iast (pn := 24) X d_Md_init_23 hσ5 ?_
  refine hv_dup (pn := 25) X d_Md_init_24 rfl ?_
  refine hv_iconst (pn := 26) (v := 3) X d_Md_init_25 ?_
  refine hv_ldc (pn := 28) X d_Md_init_26 q_4_37 ?_
  obtain ⟨σ6, hσ6, hf⟩ := bd_E hf
  refine hv_iast (pn := 29) X d_Md_init_28 hσ6 ?_
  refine hv_dup (pn := 30) X d_Md_init_29 rfl ?_
  refine hv_iconst (pn := 31) (v := 4) X d_Md_init_30 ?_
  refine hv_ldc (pn := 33) X d_Md_init_31 q_4_38 ?_
  obtain ⟨σ7, hσ7, hf⟩ := bd_E hf
  refine hv_iast (pn := 34) X d_Md_init_33 hσ7 ?_
  refine hv_dup (pn := 35) X d_Md_init_34 rfl ?_
  refine hv_iconst (pn := 36) (v := 5) X d_Md_init_35 ?_
  refine hv_ldc (pn := 38) X d_Md_init_36 q_4_39 ?_
  obtain ⟨σ8, hσ8, hf⟩ := bd_E hf
  refine hv_iast (pn := 39) X d_Md_init_38 hσ8 ?_
  refine hv_dup (pn := 40) X d_Md_init_39 rfl ?_
  refine hv_bipush (pn := 42) (v := 6) X d_Md_init_40 ?_
  refine hv_ldc (pn := 44) X d_Md_init_42 q_4_40 ?_
  obtain ⟨σ9, hσ9, hf⟩ := bd_E hf
  refine hv_iast (pn := 45) X d_Md_init_44 hσ9 ?_
  refine hv_dup (pn := 46) X d_Md_init_45 rfl ?_
  refine hv_bipush (pn := 48) (v := 7) X d_Md_init_46 ?_
  refine hv_ldc (pn := 50) X d_Md_init_48 q_4_41 ?_
  obtain ⟨σ10, hσ10, hf⟩ := bd_E hf
  refine hv_iast (pn := 51) X d_Md_init_50 hσ10 ?_
  refine hv_dup (pn := 52) X d_Md_init_51 rfl ?_
  refine hv_bipush (pn := 54) (v := 8) X d_Md_init_52 ?_
  refine hv_ldc (pn := 56) X d_Md_init_54 q_4_42 ?_
  obtain ⟨σ11, hσ11, hf⟩ := bd_E hf
  refine hv_iast (pn := 57) X d_Md_init_56 hσ11 ?_
  refine hv_dup (pn := 58) X d_Md_init_57 rfl ?_
  refine hv_bipush (pn := 60) (v := 9) X d_Md_init_58 ?_
  refine hv_ldc (pn := 62) X d_Md_init_60 q_4_43 ?_
  obtain ⟨σ12, hσ12, hf⟩ := bd_E hf
  refine hv_iast (pn := 63) X d_Md_init_62 hσ12 ?_
  refine hv_dup (pn := 64) X d_Md_init_63 rfl ?_
  refine hv_bipush (pn := 66) (v := 10) X d_Md_init_64 ?_
  refine hv_ldc (pn := 68) X d_Md_init_66 q_4_44 ?_
  obtain ⟨σ13, hσ13, hf⟩ := bd_E hf
  refine hv_iast (pn := 69) X d_Md_init_68 hσ13 ?_
  refine hv_dup (pn := 70) X d_Md_init_69 rfl ?_
  refine hv_bipush (pn := 72) (v := 11) X d_Md_init_70 ?_
  refine hv_ldc (pn := 74) X d_Md_init_72 q_4_45 ?_
  obtain ⟨σ14, hσ14, hf⟩ := bd_E hf
  refine hv_iast (pn := 75) X d_Md_init_74 hσ14 ?_
  refine hv_dup (pn := 76) X d_Md_init_75 rfl ?_
  refine hv_bipush (pn := 78) (v := 12) X d_Md_init_76 ?_
  refine hv_ldc (pn := 80) X d_Md_init_78 q_4_46 ?_
  obtain ⟨σ15, hσ15, hf⟩ := bd_E hf
  refine hv_iast (pn := 81) X d_Md_init_80 hσ15 ?_
  refine hv_dup (pn := 82) X d_Md_init_81 rfl ?_
  refine hv_bipush (pn := 84) (v := 13) X d_Md_init_82 ?_
  refine hv_ldc (pn := 86) X d_Md_init_84 q_4_47 ?_
  obtain ⟨σ16, hσ16, hf⟩ := bd_E hf
  refine hv_iast (pn := 87) X d_Md_init_86 hσ16 ?_
  refine hv_dup (pn := 88) X d_Md_init_87 rfl ?_
  refine hv_bipush (pn := 90) (v := 14) X d_Md_init_88 ?_
  refine hv_ldc (pn := 92) X d_Md_init_90 q_4_48 ?_
  obtain ⟨σ17, hσ17, hf⟩ := bd_E hf
  refine hv_iast (pn := 93) X d_Md_init_92 hσ17 ?_
  refine hv_dup (pn := 94) X d_Md_init_93 rfl ?_
  refine hv_bipush (pn := 96) (v := 15) X d_Md_init_94 ?_
  refine hv_ldc (pn := 98) X d_Md_init_96 q_4_49 ?_
  obtain ⟨σ18, hσ18, hf⟩ := bd_E hf
  refine hv_iast (pn := 99) X d_Md_init_98 hσ18 ?_
  refine hv_dup (pn := 100) X d_Md_init_99 rfl ?_
  refine hv_bipush (pn := 102) (v := 16) X d_Md_init_100 ?_
  refine hv_ldc (pn := 104) X d_Md_init_102 q_4_50 ?_
  obtain ⟨σ19, hσ19, hf⟩ := bd_E hf
  refine hv_iast (pn := 105) X d_Md_init_104 hσ19 ?_
  refine hv_dup (pn := 106) X d_Md_init_105 rfl ?_
  refine hv_bipush (pn := 108) (v := 17) X d_Md_init_106 ?_
  refine hv_ldc (pn := 110) X d_Md_init_108 q_4_51 ?_
  obtain ⟨σ20, hσ20, hf⟩ := bd_E hf
  refine hv_iast (pn := 111) X d_Md_init_110 hσ20 ?_
  refine hv_dup (pn := 112) X d_Md_init_111 rfl ?_
  refine hv_bipush (pn := 114) (v := 18) X d_Md_init_112 ?_
  refine hv_ldc (pn := 116) X d_Md_init_114 q_4_52 ?_
  obtain ⟨σ21, hσ21, hf⟩ := bd_E hf
  refine hv_iast (pn := 117) X d_Md_init_116 hσ21 ?_
  refine hv_dup (pn := 118) X d_Md_init_117 rfl ?_
  refine hv_bipush (pn := 120) (v := 19) X d_Md_init_118 ?_
  refine hv_ldc (pn := 122) X d_Md_init_120 q_4_53 ?_
  obtain ⟨σ22, hσ22, hf⟩ := bd_E hf
  refine hv_iast (pn := 123) X d_Md_init_122 hσ22 ?_
  refine hv_dup (pn := 124) X d_Md_init_123 rfl ?_
  refine hv_bipush (pn := 126) (v := 20) X d_Md_init_124 ?_
  refine hv_ldc (pn := 128) X d_Md_init_126 q_4_54 ?_
  obtain ⟨σ23, hσ23, hf⟩ := bd_E hf
  refine hv_iast (pn := 129) X d_Md_init_128 hσ23 ?_
  refine hv_dup (pn := 130) X d_Md_init_129 rfl ?_
  refine hv_bipush (pn := 132) (v := 21) X d_Md_init_130 ?_
  refine hv_ldc (pn := 134) X d_Md_init_132 q_4_55 ?_
  obtain ⟨σ24, hσ24, hf⟩ := bd_E hf
  refine hv_iast (pn := 135) X d_Md_init_134 hσ24 ?_
  refine hv_dup (pn := 136) X d_Md_init_135 rfl ?_
  refine hv_bipush (pn := 138) (v := 22) X d_Md_init_136 ?_
  refine hv_ldc (pn := 140) X d_Md_init_138 q_4_56 ?_
  obtain ⟨σ25, hσ25, hf⟩ := bd_E hf
  refine hv_iast (pn := 141) X d_Md_init_140 hσ25 ?_
  refine hv_dup (pn := 142) X d_Md_init_141 rfl ?_
  refine hv_bipush (pn := 144) (v := 23) X d_Md_init_142 ?_
  refine hv_ldc (pn := 146) X d_Md_init_144 q_4_57 ?_
  obtain ⟨σ26, hσ26, hf⟩ := bd_E hf
  refine hv_iast (pn := 147) X d_Md_init_146 hσ26 ?_
  refine hv_dup (pn := 148) X d_Md_init_147 rfl ?_
  refine hv_bipush (pn := 150) (v := 24) X d_Md_init_148 ?_
  refine hv_ldc (pn := 152) X d_Md_init_150 q_4_58 ?_
  obtain ⟨σ27, hσ27, hf⟩ := bd_E hf
  refine hv_iast (pn := 153) X d_Md_init_152 hσ27 ?_
  refine hv_dup (pn := 154) X d_Md_init_153 rfl ?_
  refine hv_bipush (pn := 156) (v := 25) X d_Md_init_154 ?_
  refine hv_ldc (pn := 158) X d_Md_init_156 q_4_59 ?_
  obtain ⟨σ28, hσ28, hf⟩ := bd_E hf
  refine hv_iast (pn := 159) X d_Md_init_158 hσ28 ?_
  refine hv_dup (pn := 160) X d_Md_init_159 rfl ?_
  refine hv_bipush (pn := 162) (v := 26) X d_Md_init_160 ?_
  refine hv_ldc (pn := 164) X d_Md_init_162 q_4_60 ?_
  obtain ⟨σ29, hσ29, hf⟩ := bd_E hf
  refine hv_iast (pn := 165) X d_Md_init_164 hσ29 ?_
  refine hv_dup (pn := 166) X d_Md_init_165 rfl ?_
  refine hv_bipush (pn := 168) (v := 27) X d_Md_init_166 ?_
  refine hv_ldc (pn := 170) X d_Md_init_168 q_4_61 ?_
  obtain ⟨σ30, hσ30, hf⟩ := bd_E hf
  refine hv_iast (pn := 171) X d_Md_init_170 hσ30 ?_
  refine hv_dup (pn := 172) X d_Md_init_171 rfl ?_
  refine hv_bipush (pn := 174) (v := 28) X d_Md_init_172 ?_
  refine hv_ldc (pn := 176) X d_Md_init_174 q_4_62 ?_
  obtain ⟨σ31, hσ31, hf⟩ := bd_E hf
  refine hv_iast (pn := 177) X d_Md_init_176 hσ31 ?_
  refine hv_dup (pn := 178) X d_Md_init_177 rfl ?_
  refine hv_bipush (pn := 180) (v := 29) X d_Md_init_178 ?_
  refine hv_ldc (pn := 182) X d_Md_init_180 q_4_63 ?_
  obtain ⟨σ32, hσ32, hf⟩ := bd_E hf
  refine hv_iast (pn := 183) X d_Md_init_182 hσ32 ?_
  refine hv_dup (pn := 184) X d_Md_init_183 rfl ?_
  refine hv_bipush (pn := 186) (v := 30) X d_Md_init_184 ?_
  refine hv_ldc (pn := 188) X d_Md_init_186 q_4_64 ?_
  obtain ⟨σ33, hσ33, hf⟩ := bd_E hf
  refine hv_iast (pn := 189) X d_Md_init_188 hσ33 ?_
  refine hv_dup (pn := 190) X d_Md_init_189 rfl ?_
  refine hv_bipush (pn := 192) (v := 31) X d_Md_init_190 ?_
  refine hv_ldc (pn := 194) X d_Md_init_192 q_4_65 ?_
  obtain ⟨σ34, hσ34, hf⟩ := bd_E hf
  refine hv_iast (pn := 195) X d_Md_init_194 hσ34 ?_
  refine hv_dup (pn := 196) X d_Md_init_195 rfl ?_
  refine hv_bipush (pn := 198) (v := 32) X d_Md_init_196 ?_
  refine hv_ldc (pn := 200) X d_Md_init_198 q_4_66 ?_
  obtain ⟨σ35, hσ35, hf⟩ := bd_E hf
  refine hv_iast (pn := 201) X d_Md_init_200 hσ35 ?_
  refine hv_dup (pn := 202) X d_Md_init_201 rfl ?_
  refine hv_bipush (pn := 204) (v := 33) X d_Md_init_202 ?_
  refine hv_ldc (pn := 206) X d_Md_init_204 q_4_67 ?_
  obtain ⟨σ36, hσ36, hf⟩ := bd_E hf
  refine hv_iast (pn := 207) X d_Md_init_206 hσ36 ?_
  refine hv_dup (pn := 208) X d_Md_init_207 rfl ?_
  refine hv_bipush (pn := 210) (v := 34) X d_Md_init_208 ?_
  refine hv_ldc (pn := 212) X d_Md_init_210 q_4_68 ?_
  obtain ⟨σ37, hσ37, hf⟩ := bd_E hf
  refine hv_iast (pn := 213) X d_Md_init_212 hσ37 ?_
  refine hv_dup (pn := 214) X d_Md_init_213 rfl ?_
  refine hv_bipush (pn := 216) (v := 35) X d_Md_init_214 ?_
  refine hv_ldc (pn := 218) X d_Md_init_216 q_4_69 ?_
  obtain ⟨σ38, hσ38, hf⟩ := bd_E hf
  refine hv_iast (pn := 219) X d_Md_init_218 hσ38 ?_
  refine hv_dup (pn := 220) X d_Md_init_219 rfl ?_
  refine hv_bipush (pn := 222) (v := 36) X d_Md_init_220 ?_
  refine hv_ldc (pn := 224) X d_Md_init_222 q_4_70 ?_
  obtain ⟨σ39, hσ39, hf⟩ := bd_E hf
  refine hv_iast (pn := 225) X d_Md_init_224 hσ39 ?_
  refine hv_dup (pn := 226) X d_Md_init_225 rfl ?_
  refine hv_bipush (pn := 228) (v := 37) X d_Md_init_226 ?_
  refine hv_ldc (pn := 230) X d_Md_init_228 q_4_71 ?_
  obtain ⟨σ40, hσ40, hf⟩ := bd_E hf
  refine hv_iast (pn := 231) X d_Md_init_230 hσ40 ?_
  refine hv_dup (pn := 232) X d_Md_init_231 rfl ?_
  refine hv_bipush (pn := 234) (v := 38) X d_Md_init_232 ?_
  refine hv_ldc (pn := 236) X d_Md_init_234 q_4_72 ?_
  obtain ⟨σ41, hσ41, hf⟩ := bd_E hf
  refine hv_iast (pn := 237) X d_Md_init_236 hσ41 ?_
  refine hv_dup (pn := 238) X d_Md_init_237 rfl ?_
  refine hv_bipush (pn := 240) (v := 39) X d_Md_init_238 ?_
  refine hv_ldc (pn := 242) X d_Md_init_240 q_4_73 ?_
  obtain ⟨σ42, hσ42, hf⟩ := bd_E hf
  refine hv_iast (pn := 243) X d_Md_init_242 hσ42 ?_
  refine hv_dup (pn := 244) X d_Md_init_243 rfl ?_
  refine hv_bipush (pn := 246) (v := 40) X d_Md_init_244 ?_
  refine hv_ldc (pn := 248) X d_Md_init_246 q_4_74 ?_
  obtain ⟨σ43, hσ43, hf⟩ := bd_E hf
  refine hv_iast (pn := 249) X d_Md_init_248 hσ43 ?_
  refine hv_dup (pn := 250) X d_Md_init_249 rfl ?_
  refine hv_bipush (pn := 252) (v := 41) X d_Md_init_250 ?_
  refine hv_ldc (pn := 254) X d_Md_init_252 q_4_75 ?_
  obtain ⟨σ44, hσ44, hf⟩ := bd_E hf
  refine hv_iast (pn := 255) X d_Md_init_254 hσ44 ?_
  refine hv_dup (pn := 256) X d_Md_init_255 rfl ?_
  refine hv_bipush (pn := 258) (v := 42) X d_Md_init_256 ?_
  refine hv_ldc (pn := 260) X d_Md_init_258 q_4_76 ?_
  obtain ⟨σ45, hσ45, hf⟩ := bd_E hf
  refine hv_iast (pn := 261) X d_Md_init_260 hσ45 ?_
  refine hv_dup (pn := 262) X d_Md_init_261 rfl ?_
  refine hv_bipush (pn := 264) (v := 43) X d_Md_init_262 ?_
  refine hv_ldc (pn := 266) X d_Md_init_264 q_4_77 ?_
  obtain ⟨σ46, hσ46, hf⟩ := bd_E hf
  refine hv_iast (pn := 267) X d_Md_init_266 hσ46 ?_
  refine hv_dup (pn := 268) X d_Md_init_267 rfl ?_
  refine hv_bipush (pn := 270) (v := 44) X d_Md_init_268 ?_
  refine hv_ldc (pn := 272) X d_Md_init_270 q_4_78 ?_
  obtain ⟨σ47, hσ47, hf⟩ := bd_E hf
  refine hv_iast (pn := 273) X d_Md_init_272 hσ47 ?_
  refine hv_dup (pn := 274) X d_Md_init_273 rfl ?_
  refine hv_bipush (pn := 276) (v := 45) X d_Md_init_274 ?_
  refine hv_ldc (pn := 278) X d_Md_init_276 q_4_79 ?_
  obtain ⟨σ48, hσ48, hf⟩ := bd_E hf
  refine hv_iast (pn := 279) X d_Md_init_278 hσ48 ?_
  refine hv_dup (pn := 280) X d_Md_init_279 rfl ?_
  refine hv_bipush (pn := 282) (v := 46) X d_Md_init_280 ?_
  refine hv_ldc (pn := 284) X d_Md_init_282 q_4_80 ?_
  obtain ⟨σ49, hσ49, hf⟩ := bd_E hf
  refine hv_iast (pn := 285) X d_Md_init_284 hσ49 ?_
  refine hv_dup (pn := 286) X d_Md_init_285 rfl ?_
  refine hv_bipush (pn := 288) (v := 47) X d_Md_init_286 ?_
  refine hv_ldc (pn := 290) X d_Md_init_288 q_4_81 ?_
  obtain ⟨σ50, hσ50, hf⟩ := bd_E hf
  refine hv_iast (pn := 291) X d_Md_init_290 hσ50 ?_
  refine hv_dup (pn := 292) X d_Md_init_291 rfl ?_
  refine hv_bipush (pn := 294) (v := 48) X d_Md_init_292 ?_
  refine hv_ldc (pn := 296) X d_Md_init_294 q_4_82 ?_
  obtain ⟨σ51, hσ51, hf⟩ := bd_E hf
  refine hv_iast (pn := 297) X d_Md_init_296 hσ51 ?_
  refine hv_dup (pn := 298) X d_Md_init_297 rfl ?_
  refine hv_bipush (pn := 300) (v := 49) X d_Md_init_298 ?_
  refine hv_ldc (pn := 302) X d_Md_init_300 q_4_83 ?_
  obtain ⟨σ52, hσ52, hf⟩ := bd_E hf
  refine hv_iast (pn := 303) X d_Md_init_302 hσ52 ?_
  refine hv_dup (pn := 304) X d_Md_init_303 rfl ?_
  refine hv_bipush (pn := 306) (v := 50) X d_Md_init_304 ?_
  refine hv_ldc (pn := 308) X d_Md_init_306 q_4_84 ?_
  obtain ⟨σ53, hσ53, hf⟩ := bd_E hf
  refine hv_iast (pn := 309) X d_Md_init_308 hσ53 ?_
  refine hv_dup (pn := 310) X d_Md_init_309 rfl ?_
  refine hv_bipush (pn := 312) (v := 51) X d_Md_init_310 ?_
  refine hv_ldc (pn := 314) X d_Md_init_312 q_4_85 ?_
  obtain ⟨σ54, hσ54, hf⟩ := bd_E hf
  refine hv_iast (pn := 315) X d_Md_init_314 hσ54 ?_
  refine hv_dup (pn := 316) X d_Md_init_315 rfl ?_
  refine hv_bipush (pn := 318) (v := 52) X d_Md_init_316 ?_
  refine hv_ldc (pn := 320) X d_Md_init_318 q_4_86 ?_
  obtain ⟨σ55, hσ55, hf⟩ := bd_E hf
  refine hv_iast (pn := 321) X d_Md_init_320 hσ55 ?_
  refine hv_dup (pn := 322) X d_Md_init_321 rfl ?_
  refine hv_bipush (pn := 324) (v := 53) X d_Md_init_322 ?_
  refine hv_ldc (pn := 326) X d_Md_init_324 q_4_87 ?_
  obtain ⟨σ56, hσ56, hf⟩ := bd_E hf
  refine hv_iast (pn := 327) X d_Md_init_326 hσ56 ?_
  refine hv_dup (pn := 328) X d_Md_init_327 rfl ?_
  refine hv_bipush (pn := 330) (v := 54) X d_Md_init_328 ?_
  refine hv_ldc (pn := 332) X d_Md_init_330 q_4_88 ?_
  obtain ⟨σ57, hσ57, hf⟩ := bd_E hf
  refine hv_iast (pn := 333) X d_Md_init_332 hσ57 ?_
  refine hv_dup (pn := 334) X d_Md_init_333 rfl ?_
  refine hv_bipush (pn := 336) (v := 55) X d_Md_init_334 ?_
  refine hv_ldc (pn := 338) X d_Md_init_336 q_4_89 ?_
  obtain ⟨σ58, hσ58, hf⟩ := bd_E hf
  refine hv_iast (pn := 339) X d_Md_init_338 hσ58 ?_
  refine hv_dup (pn := 340) X d_Md_init_339 rfl ?_
  refine hv_bipush (pn := 342) (v := 56) X d_Md_init_340 ?_
  refine hv_ldc (pn := 344) X d_Md_init_342 q_4_90 ?_
  obtain ⟨σ59, hσ59, hf⟩ := bd_E hf
  refine hv_iast (pn := 345) X d_Md_init_344 hσ59 ?_
  refine hv_dup (pn := 346) X d_Md_init_345 rfl ?_
  refine hv_bipush (pn := 348) (v := 57) X d_Md_init_346 ?_
  refine hv_ldc (pn := 350) X d_Md_init_348 q_4_91 ?_
  obtain ⟨σ60, hσ60, hf⟩ := bd_E hf
  refine hv_iast (pn := 351) X d_Md_init_350 hσ60 ?_
  refine hv_dup (pn := 352) X d_Md_init_351 rfl ?_
  refine hv_bipush (pn := 354) (v := 58) X d_Md_init_352 ?_
  refine hv_ldc (pn := 356) X d_Md_init_354 q_4_92 ?_
  obtain ⟨σ61, hσ61, hf⟩ := bd_E hf
  refine hv_iast (pn := 357) X d_Md_init_356 hσ61 ?_
  refine hv_dup (pn := 358) X d_Md_init_357 rfl ?_
  refine hv_bipush (pn := 360) (v := 59) X d_Md_init_358 ?_
  refine hv_ldc (pn := 362) X d_Md_init_360 q_4_93 ?_
  obtain ⟨σ62, hσ62, hf⟩ := bd_E hf
  refine hv_iast (pn := 363) X d_Md_init_362 hσ62 ?_
  refine hv_dup (pn := 364) X d_Md_init_363 rfl ?_
  refine hv_bipush (pn := 366) (v := 60) X d_Md_init_364 ?_
  refine hv_ldc (pn := 368) X d_Md_init_366 q_4_94 ?_
  obtain ⟨σ63, hσ63, hf⟩ := bd_E hf
  refine hv_iast (pn := 369) X d_Md_init_368 hσ63 ?_
  refine hv_dup (pn := 370) X d_Md_init_369 rfl ?_
  refine hv_bipush (pn := 372) (v := 61) X d_Md_init_370 ?_
  refine hv_ldc (pn := 374) X d_Md_init_372 q_4_95 ?_
  obtain ⟨σ64, hσ64, hf⟩ := bd_E hf
  refine hv_iast (pn := 375) X d_Md_init_374 hσ64 ?_
  refine hv_dup (pn := 376) X d_Md_init_375 rfl ?_
  refine hv_bipush (pn := 378) (v := 62) X d_Md_init_376 ?_
  refine hv_ldc (pn := 380) X d_Md_init_378 q_4_96 ?_
  obtain ⟨σ65, hσ65, hf⟩ := bd_E hf
  refine hv_iast (pn := 381) X d_Md_init_380 hσ65 ?_
  refine hv_dup (pn := 382) X d_Md_init_381 rfl ?_
  refine hv_bipush (pn := 384) (v := 63) X d_Md_init_382 ?_
  refine hv_ldc (pn := 386) X d_Md_init_384 q_4_97 ?_
  obtain ⟨σ66, hσ66, hf⟩ := bd_E hf
  refine hv_iast (pn := 387) X d_Md_init_386 hσ66 ?_
  obtain ⟨σ67, hσ67, hf⟩ := bd_E hf
  refine hv_putF (pn := 390) X d_Md_init_387 fp_Md_71 hσ67 ?_
  refine hv_aload_n (pn := 391) X d_Md_init_390 ?_
  refine hv_bipush (pn := 393) (v := 8) X d_Md_init_391 ?_
  obtain ⟨σ68, b69, hσ68, hf⟩ := bd2_E hf
  refine hv_nwI (pn := 395) X d_Md_init_393 q_1_83 hσ68 ?_
  refine hv_dup (pn := 396) X d_Md_init_395 rfl ?_
  refine hv_iconst (pn := 397) (v := 0) X d_Md_init_396 ?_
  refine hv_ldc (pn := 399) X d_Md_init_397 q_4_98 ?_
  obtain ⟨σ70, hσ70, hf⟩ := bd_E hf
  refine hv_iast (pn := 400) X d_Md_init_399 hσ70 ?_
  refine hv_dup (pn := 401) X d_Md_init_400 rfl ?_
  refine hv_iconst (pn := 402) (v := 1) X d_Md_init_401 ?_
  refine hv_ldc (pn := 404) X d_Md_init_402 q_4_99 ?_
  obtain ⟨σ71, hσ71, hf⟩ := bd_E hf
  refine hv_iast (pn := 405) X d_Md_init_404 hσ71 ?_
  refine hv_dup (pn := 406) X d_Md_init_405 rfl ?_
  refine hv_iconst (pn := 407) (v := 2) X d_Md_init_406 ?_
  refine hv_ldc (pn := 409) X d_Md_init_407 q_4_100 ?_
  obtain ⟨σ72, hσ72, hf⟩ := bd_E hf
  refine hv_iast (pn := 410) X d_Md_init_409 hσ72 ?_
  refine hv_dup (pn := 411) X d_Md_init_410 rfl ?_
  refine hv_iconst (pn := 412) (v := 3) X d_Md_init_411 ?_
  refine hv_ldc (pn := 414) X d_Md_init_412 q_4_101 ?_
  obtain ⟨σ73, hσ73, hf⟩ := bd_E hf
  refine hv_iast (pn := 415) X d_Md_init_414 hσ73 ?_
  refine hv_dup (pn := 416) X d_Md_init_415 rfl ?_
  refine hv_iconst (pn := 417) (v := 4) X d_Md_init_416 ?_
  refine hv_ldc (pn := 419) X d_Md_init_417 q_4_102 ?_
  obtain ⟨σ74, hσ74, hf⟩ := bd_E hf
  refine hv_iast (pn := 420) X d_Md_init_419 hσ74 ?_
  refine hv_dup (pn := 421) X d_Md_init_420 rfl ?_
  refine hv_iconst (pn := 422) (v := 5) X d_Md_init_421 ?_
  refine hv_ldc (pn := 424) X d_Md_init_422 q_4_103 ?_
  obtain ⟨σ75, hσ75, hf⟩ := bd_E hf
  refine hv_iast (pn := 425) X d_Md_init_424 hσ75 ?_
  refine hv_dup (pn := 426) X d_Md_init_425 rfl ?_
  refine hv_bipush (pn := 428) (v := 6) X d_Md_init_426 ?_
  refine hv_ldc (pn := 430) X d_Md_init_428 q_4_104 ?_
  obtain ⟨σ76, hσ76, hf⟩ := bd_E hf
  refine hv_iast (pn := 431) X d_Md_init_430 hσ76 ?_
  refine hv_dup (pn := 432) X d_Md_init_431 rfl ?_
  refine hv_bipush (pn := 434) (v := 7) X d_Md_init_432 ?_
  refine hv_ldc (pn := 436) X d_Md_init_434 q_4_105 ?_
  obtain ⟨σ77, hσ77, hf⟩ := bd_E hf
  refine hv_iast (pn := 437) X d_Md_init_436 hσ77 ?_
  obtain ⟨σ78, hσ78, hf⟩ := bd_E hf
  refine hv_putF (pn := 440) X d_Md_init_437 fp_Md_85 hσ78 ?_
  refine hv_aload_n (pn := 441) X d_Md_init_440 ?_
  refine hv_bipush (pn := 443) (v := 64) X d_Md_init_441 ?_
  obtain ⟨σ79, b80, hσ79, hf⟩ := bd2_E hf
  refine hv_nwI (pn := 445) X d_Md_init_443 q_1_83 hσ79 ?_
  obtain ⟨σ81, hσ81, hf⟩ := bd_E hf
  refine hv_putF (pn := 448) X d_Md_init_445 fp_Md_88 hσ81 ?_
  refine hv_aload_n (pn := 449) X d_Md_init_448 ?_
  refine hv_bipush (pn := 451) (v := 8) X d_Md_init_449 ?_
  obtain ⟨σ82, b83, hσ82, hf⟩ := bd2_E hf
  refine hv_nwI (pn := 453) X d_Md_init_451 q_1_83 hσ82 ?_
  obtain ⟨σ84, hσ84, hf⟩ := bd_E hf
  refine hv_putF (pn := 456) X d_Md_init_453 fp_Md_91 hσ84 ?_
  refine hv_aload_n (pn := 457) X d_Md_init_456 ?_
  refine hv_bipush (pn := 459) (v := 8) X d_Md_init_457 ?_
  obtain ⟨σ85, b86, hσ85, hf⟩ := bd2_E hf
  refine hv_nwI (pn := 461) X d_Md_init_459 q_1_83 hσ85 ?_
  obtain ⟨σ87, hσ87, hf⟩ := bd_E hf
  refine hv_putF (pn := 464) X d_Md_init_461 fp_Md_94 hσ87 ?_
  refine hv_aload_n (pn := 465) X d_Md_init_464 ?_
  refine hv_sipush (pn := 468) (v := 256) X d_Md_init_465 ?_
  obtain ⟨σ88, b89, hσ88, hf⟩ := bd2_E hf
  refine hv_nwI (pn := 470) X d_Md_init_468 q_1_83 hσ88 ?_
  obtain ⟨σ90, hσ90, hf⟩ := bd_E hf
  refine hv_putF (pn := 473) X d_Md_init_470 fp_Md_97 hσ90 ?_
  refine hv_aload_n (pn := 474) X d_Md_init_473 ?_
  refine hv_bipush (pn := 476) (v := 64) X d_Md_init_474 ?_
  obtain ⟨σ91, b92, hσ91, hf⟩ := bd2_E hf
  refine hv_nwI (pn := 478) X d_Md_init_476 q_1_83 hσ91 ?_
  obtain ⟨σ93, hσ93, hf⟩ := bd_E hf
  refine hv_putF (pn := 481) X d_Md_init_478 fp_Md_100 hσ93 ?_
  refine hv_aload_n (pn := 482) X d_Md_init_481 ?_
  refine hv_bipush (pn := 484) (v := 64) X d_Md_init_482 ?_
  obtain ⟨σ94, b95, hσ94, hf⟩ := bd2_E hf
  refine hv_nwI (pn := 486) X d_Md_init_484 q_1_83 hσ94 ?_
  obtain ⟨σ96, hσ96, hf⟩ := bd_E hf
  refine hv_putF (pn := 489) X d_Md_init_486 fp_Md_103 hσ96 ?_
  refine hv_aload_n (pn := 490) X d_Md_init_489 ?_
  refine hv_bipush (pn := 492) (v := 32) X d_Md_init_490 ?_
  obtain ⟨σ97, b98, hσ97, hf⟩ := bd2_E hf
  refine hv_nwI (pn := 494) X d_Md_init_492 q_1_83 hσ97 ?_
  obtain ⟨σ99, hσ99, hf⟩ := bd_E hf
  refine hv_putF (pn := 497) X d_Md_init_494 fp_Md_106 hσ99 ?_
  refine hv_aload_n (pn := 498) X d_Md_init_497 ?_
  refine hv_bipush (pn := 500) (v := 8) X d_Md_init_498 ?_
  obtain ⟨σ100, b101, hσ100, hf⟩ := bd2_E hf
  refine hv_nwI (pn := 502) X d_Md_init_500 q_1_83 hσ100 ?_
  obtain ⟨σ102, hσ102, hf⟩ := bd_E hf
  refine hv_putF (pn := 505) X d_Md_init_502 fp_Md_109 hσ102 ?_
  refine hv_aload_n (pn := 506) X d_Md_init_505 ?_
  refine hv_sipush (pn := 509) (v := 10400) X d_Md_init_506 ?_
  obtain ⟨σ103, b104, hσ103, hf⟩ := bd2_E hf
  refine hv_nwI (pn := 511) X d_Md_init_509 q_1_83 hσ103 ?_
  obtain ⟨σ105, hσ105, hf⟩ := bd_E hf
  refine hv_putF (pn := 514) X d_Md_init_511 fp_Md_112 hσ105 ?_
  refine hv_aload_n (pn := 515) X d_Md_init_514 ?_
  refine hv_sipush (pn := 518) (v := 200) X d_Md_init_515 ?_
  obtain ⟨σ106, b107, hσ106, hf⟩ := bd2_E hf
  refine hv_nwI (pn := 520) X d_Md_init_518 q_1_83 hσ106 ?_
  obtain ⟨σ108, hσ108, hf⟩ := bd_E hf
  refine hv_putF (pn := 523) X d_Md_init_520 fp_Md_115 hσ108 ?_
  refine hv_aload_n (pn := 524) X d_Md_init_523 ?_
  refine hv_sipush (pn := 527) (v := 13600) X d_Md_init_524 ?_
  obtain ⟨σ109, b110, hσ109, hf⟩ := bd2_E hf
  refine hv_nwI (pn := 529) X d_Md_init_527 q_1_83 hσ109 ?_
  obtain ⟨σ111, hσ111, hf⟩ := bd_E hf
  refine hv_putF (pn := 532) X d_Md_init_529 fp_Md_118 hσ111 ?_
  refine hv_aload_n (pn := 533) X d_Md_init_532 ?_
  refine hv_bipush (pn := 535) (v := 8) X d_Md_init_533 ?_
  obtain ⟨σ112, b113, hσ112, hf⟩ := bd2_E hf
  refine hv_nwI (pn := 537) X d_Md_init_535 q_1_83 hσ112 ?_
  obtain ⟨σ114, hσ114, hf⟩ := bd_E hf
  refine hv_putF (pn := 540) X d_Md_init_537 fp_Md_121 hσ114 ?_
  refine hv_aload_n (pn := 541) X d_Md_init_540 ?_
  refine hv_bipush (pn := 543) (v := 64) X d_Md_init_541 ?_
  obtain ⟨σ115, b116, hσ115, hf⟩ := bd2_E hf
  refine hv_nwZ (pn := 545) X d_Md_init_543 q_4_232 hσ115 ?_
  obtain ⟨σ117, hσ117, hf⟩ := bd_E hf
  refine hv_putF (pn := 548) X d_Md_init_545 fp_Md_124 hσ117 ?_
  refine hv_aload_n (pn := 549) X d_Md_init_548 ?_
  refine hv_bipush (pn := 551) (v := 64) X d_Md_init_549 ?_
  obtain ⟨σ118, b119, hσ118, hf⟩ := bd2_E hf
  refine hv_nwI (pn := 553) X d_Md_init_551 q_1_83 hσ118 ?_
  obtain ⟨σ120, hσ120, hf⟩ := bd_E hf
  refine hv_putF (pn := 556) X d_Md_init_553 fp_Md_128 hσ120 ?_
  refine hv_aload_n (pn := 557) X d_Md_init_556 ?_
  refine hv_bipush (pn := 559) (v := 64) X d_Md_init_557 ?_
  obtain ⟨σ121, b122, hσ121, hf⟩ := bd2_E hf
  refine hv_nwI (pn := 561) X d_Md_init_559 q_1_83 hσ121 ?_
  obtain ⟨σ123, hσ123, hf⟩ := bd_E hf
  refine hv_putF (pn := 564) X d_Md_init_561 fp_Md_131 hσ123 ?_
  refine hv_aload_n (pn := 565) X d_Md_init_564 ?_
  refine hv_sipush (pn := 568) (v := 1280) X d_Md_init_565 ?_
  obtain ⟨σ124, b125, hσ124, hf⟩ := bd2_E hf
  refine hv_nwI (pn := 570) X d_Md_init_568 q_1_83 hσ124 ?_
  obtain ⟨σ126, hσ126, hf⟩ := bd_E hf
  refine hv_putF (pn := 573) X d_Md_init_570 fp_Md_134 hσ126 ?_
  refine hv_aload_n (pn := 574) X d_Md_init_573 ?_
  refine hv_bipush (pn := 576) (v := 64) X d_Md_init_574 ?_
  obtain ⟨σ127, b128, hσ127, hf⟩ := bd2_E hf
  refine hv_nwI (pn := 578) X d_Md_init_576 q_1_83 hσ127 ?_
  obtain ⟨σ129, hσ129, hf⟩ := bd_E hf
  refine hv_putF (pn := 581) X d_Md_init_578 fp_Md_137 hσ129 ?_
  refine hv_aload_n (pn := 582) X d_Md_init_581 ?_
  refine hv_bipush (pn := 584) (v := 8) X d_Md_init_582 ?_
  obtain ⟨σ130, b131, hσ130, hf⟩ := bd2_E hf
  refine hv_nwI (pn := 586) X d_Md_init_584 q_1_83 hσ130 ?_
  obtain ⟨σ132, hσ132, hf⟩ := bd_E hf
  refine hv_putF (pn := 589) X d_Md_init_586 fp_Md_140 hσ132 ?_
  refine hv_aload_n (pn := 590) X d_Md_init_589 ?_
  refine hv_sipush (pn := 593) (v := 128) X d_Md_init_590 ?_
  obtain ⟨σ133, b134, hσ133, hf⟩ := bd2_E hf
  refine hv_nwI (pn := 595) X d_Md_init_593 q_1_83 hσ133 ?_
  obtain ⟨σ135, hσ135, hf⟩ := bd_E hf
  refine hv_putF (pn := 598) X d_Md_init_595 fp_Md_143 hσ135 ?_
  refine hv_aload_n (pn := 599) X d_Md_init_598 ?_
  refine hv_sipush (pn := 602) (v := 8704) X d_Md_init_599 ?_
  obtain ⟨σ136, b137, hσ136, hf⟩ := bd2_E hf
  refine hv_nwI (pn := 604) X d_Md_init_602 q_1_83 hσ136 ?_
  obtain ⟨σ138, hσ138, hf⟩ := bd_E hf
  refine hv_putF (pn := 607) X d_Md_init_604 fp_Md_146 hσ138 ?_
  refine hv_aload_n (pn := 608) X d_Md_init_607 ?_
  refine hv_bipush (pn := 610) (v := 8) X d_Md_init_608 ?_
  obtain ⟨σ139, b140, hσ139, hf⟩ := bd2_E hf
  refine hv_nwI (pn := 612) X d_Md_init_610 q_1_83 hσ139 ?_
  obtain ⟨σ141, hσ141, hf⟩ := bd_E hf
  refine hv_putF (pn := 615) X d_Md_init_612 fp_Md_149 hσ141 ?_
  refine hv_aload_n (pn := 616) X d_Md_init_615 ?_
  refine hv_sipush (pn := 619) (v := 8192) X d_Md_init_616 ?_
  obtain ⟨σ142, b143, hσ142, hf⟩ := bd2_E hf
  refine hv_nwI (pn := 621) X d_Md_init_619 q_1_83 hσ142 ?_
  obtain ⟨σ144, hσ144, hf⟩ := bd_E hf
  refine hv_putF (pn := 624) X d_Md_init_621 fp_Md_152 hσ144 ?_
  refine hv_aload_n (pn := 625) X d_Md_init_624 ?_
  refine hv_ldc (pn := 627) X d_Md_init_625 q_4_106 ?_
  obtain ⟨σ145, b146, hσ145, hf⟩ := bd2_E hf
  refine hv_nwI (pn := 629) X d_Md_init_627 q_1_83 hσ145 ?_
  obtain ⟨σ147, hσ147, hf⟩ := bd_E hf
  refine hv_putF (pn := 632) X d_Md_init_629 fp_Md_156 hσ147 ?_
  refine hv_aload_n (pn := 633) X d_Md_init_632 ?_
  refine hv_sipush (pn := 636) (v := 800) X d_Md_init_633 ?_
  obtain ⟨σ148, b149, hσ148, hf⟩ := bd2_E hf
  refine hv_nwI (pn := 638) X d_Md_init_636 q_1_83 hσ148 ?_
  obtain ⟨σ150, hσ150, hf⟩ := bd_E hf
  refine hv_putF (pn := 641) X d_Md_init_638 fp_Md_159 hσ150 ?_
  refine hv_aload_n (pn := 642) X d_Md_init_641 ?_
  refine hv_ldc (pn := 644) X d_Md_init_642 q_4_107 ?_
  obtain ⟨σ151, b152, hσ151, hf⟩ := bd2_E hf
  refine hv_nwI (pn := 646) X d_Md_init_644 q_1_83 hσ151 ?_
  obtain ⟨σ153, hσ153, hf⟩ := bd_E hf
  refine hv_putF (pn := 649) X d_Md_init_646 fp_Md_163 hσ153 ?_
  refine hv_aload_n (pn := 650) X d_Md_init_649 ?_
  refine hv_bipush (pn := 652) (v := 68) X d_Md_init_650 ?_
  obtain ⟨σ154, b155, hσ154, hf⟩ := bd2_E hf
  refine hv_nwI (pn := 654) X d_Md_init_652 q_1_83 hσ154 ?_
  obtain ⟨σ156, hσ156, hf⟩ := bd_E hf
  refine hv_putF (pn := 657) X d_Md_init_654 fp_Md_166 hσ156 ?_
  refine hv_aload_n (pn := 658) X d_Md_init_657 ?_
  refine hv_bipush (pn := 660) (v := 20) X d_Md_init_658 ?_
  obtain ⟨σ157, b158, hσ157, hf⟩ := bd2_E hf
  refine hv_nwI (pn := 662) X d_Md_init_660 q_1_83 hσ157 ?_
  obtain ⟨σ159, hσ159, hf⟩ := bd_E hf
  refine hv_putF (pn := 665) X d_Md_init_662 fp_Md_169 hσ159 ?_
  refine hv_aload_n (pn := 666) X d_Md_init_665 ?_
  refine hv_bipush (pn := 668) (v := 68) X d_Md_init_666 ?_
  obtain ⟨σ160, b161, hσ160, hf⟩ := bd2_E hf
  refine hv_nwI (pn := 670) X d_Md_init_668 q_1_83 hσ160 ?_
  obtain ⟨σ162, hσ162, hf⟩ := bd_E hf
  refine hv_putF (pn := 673) X d_Md_init_670 fp_Md_172 hσ162 ?_
  refine hv_aload_n (pn := 674) X d_Md_init_673 ?_
  refine hv_iconst (pn := 675) (v := 1) X d_Md_init_674 ?_
  refine hv_iload_n (pn := 676) X d_Md_init_675 ?_
  refine hv_bipush (pn := 678) (v := 8) X d_Md_init_676 ?_
  obtain ⟨v163, hv163, hf⟩ := bd_E hf
  refine hv_callS (pn := 681) X d_Md_init_678 (c_Md_modulo _ _ N σ162 x1 8 _ hv163) cs_Md_175 q_4_109 (by decide) (by decide) ⟨Nat.le_refl _, Nat.le_refl _⟩ (Nat.le_of_ble_eq_true rfl) ?_
  refine hv_iadd (pn := 682) X d_Md_init_681 ?_
  obtain ⟨σ164, hσ164, hf⟩ := bd_E hf
  refine hv_put (pn := 685) X d_Md_init_682 fp_Md_179 hσ164 ?_
  refine hv_aload_n (pn := 686) X d_Md_init_685 ?_
  refine hv_iconst (pn := 687) (v := 1) X d_Md_init_686 ?_
  refine hv_iload_n (pn := 688) X d_Md_init_687 ?_
  refine hv_sipush (pn := 691) (v := 1000) X d_Md_init_688 ?_
  obtain ⟨v165, hv165, hf⟩ := bd_E hf
  refine hv_callS (pn := 694) X d_Md_init_691 (c_Md_modulo _ _ N σ164 x2 1000 _ hv165) cs_Md_175 q_4_109 (by decide) (by decide) ⟨Nat.le_refl _, Nat.le_refl _⟩ (Nat.le_of_ble_eq_true rfl) ?_
  refine hv_iadd (pn := 695) X d_Md_init_694 ?_
  obtain ⟨σ166, hσ166, hf⟩ := bd_E hf
  refine hv_put (pn := 698) X d_Md_init_695 fp_Md_183 hσ166 ?_
  refine hv_aload_n (pn := 699) X d_Md_init_698 ?_
  refine hv_iload_n (pn := 700) X d_Md_init_699 ?_
  refine hv_sipush (pn := 703) (v := 10001) X d_Md_init_700 ?_
  obtain ⟨v167, hv167, hf⟩ := bd_E hf
  refine hv_callS (pn := 706) X d_Md_init_703 (c_Md_modulo _ _ N σ166 x3 10001 _ hv167) cs_Md_175 q_4_109 (by decide) (by decide) ⟨Nat.le_refl _, Nat.le_refl _⟩ (Nat.le_of_ble_eq_true rfl) ?_
  obtain ⟨σ168, hσ168, hf⟩ := bd_E hf
  refine hv_put (pn := 709) X d_Md_init_706 fp_Md_186 hσ168 ?_
  cases hf
  exact hv_vret X d_Md_init_709 E
