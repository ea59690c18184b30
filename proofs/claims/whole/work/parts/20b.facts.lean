theorem q_4_151 : (Jvm.Cond.laysFinal "BulletinOfficeModel" "BulletinOfficeModel" "constants" "[I") ∈ hv_ws := wm (wc_4 (List.mem_of_getElem? (i := 151) rfl)) rfl
theorem q_4_153 : (Jvm.Cond.laysFinal "BulletinOfficeModel" "BulletinOfficeModel" "begins" "[I") ∈ hv_ws := wm (wc_4 (List.mem_of_getElem? (i := 153) rfl)) rfl
theorem q_4_155 : (Jvm.Cond.laysFinal "BulletinOfficeModel" "BulletinOfficeModel" "words" "[I") ∈ hv_ws := wm (wc_4 (List.mem_of_getElem? (i := 155) rfl)) rfl
theorem q_4_157 : (Jvm.Cond.laysFinal "BulletinOfficeModel" "BulletinOfficeModel" "digest" "[I") ∈ hv_ws := wm (wc_4 (List.mem_of_getElem? (i := 157) rfl)) rfl
theorem q_4_159 : (Jvm.Cond.laysFinal "BulletinOfficeModel" "BulletinOfficeModel" "state" "[I") ∈ hv_ws := wm (wc_4 (List.mem_of_getElem? (i := 159) rfl)) rfl
theorem q_4_161 : (Jvm.Cond.laysFinal "BulletinOfficeModel" "BulletinOfficeModel" "row" "[I") ∈ hv_ws := wm (wc_4 (List.mem_of_getElem? (i := 161) rfl)) rfl
theorem q_4_163 : (Jvm.Cond.lays "BulletinOfficeModel" "BulletinOfficeModel" "rowSize" "I") ∈ hv_ws := wm (wc_4 (List.mem_of_getElem? (i := 163) rfl)) rfl
theorem q_4_165 : (Jvm.Cond.laysFinal "BulletinOfficeModel" "BulletinOfficeModel" "sealKey" "[I") ∈ hv_ws := wm (wc_4 (List.mem_of_getElem? (i := 165) rfl)) rfl
theorem q_4_167 : (Jvm.Cond.lays "BulletinOfficeModel" "BulletinOfficeModel" "sealKeySize" "I") ∈ hv_ws := wm (wc_4 (List.mem_of_getElem? (i := 167) rfl)) rfl
theorem q_4_169 : (Jvm.Cond.laysFinal "BulletinOfficeModel" "BulletinOfficeModel" "message" "[I") ∈ hv_ws := wm (wc_4 (List.mem_of_getElem? (i := 169) rfl)) rfl
theorem q_4_171 : (Jvm.Cond.lays "BulletinOfficeModel" "BulletinOfficeModel" "messageSize" "I") ∈ hv_ws := wm (wc_4 (List.mem_of_getElem? (i := 171) rfl)) rfl
theorem q_4_173 : (Jvm.Cond.laysFinal "BulletinOfficeModel" "BulletinOfficeModel" "seal" "[I") ∈ hv_ws := wm (wc_4 (List.mem_of_getElem? (i := 173) rfl)) rfl
theorem q_4_175 : (Jvm.Cond.lays "BulletinOfficeModel" "BulletinOfficeModel" "thrown" "I") ∈ hv_ws := wm (wc_4 (List.mem_of_getElem? (i := 175) rfl)) rfl
theorem q_4_177 : (Jvm.Cond.lays "BulletinOfficeModel" "BulletinOfficeModel" "lag" "I") ∈ hv_ws := wm (wc_4 (List.mem_of_getElem? (i := 177) rfl)) rfl
theorem q_4_179 : (Jvm.Cond.lays "BulletinOfficeModel" "BulletinOfficeModel" "ticks" "I") ∈ hv_ws := wm (wc_4 (List.mem_of_getElem? (i := 179) rfl)) rfl
theorem q_4_181 : (Jvm.Cond.lays "BulletinOfficeModel" "BulletinOfficeModel" "error" "I") ∈ hv_ws := wm (wc_4 (List.mem_of_getElem? (i := 181) rfl)) rfl
theorem q_4_183 : (Jvm.Cond.lays "BulletinOfficeModel" "BulletinOfficeModel" "time" "I") ∈ hv_ws := wm (wc_4 (List.mem_of_getElem? (i := 183) rfl)) rfl
theorem q_4_185 : (Jvm.Cond.lays "BulletinOfficeModel" "BulletinOfficeModel" "chains" "I") ∈ hv_ws := wm (wc_4 (List.mem_of_getElem? (i := 185) rfl)) rfl
theorem q_4_187 : (Jvm.Cond.lays "BulletinOfficeModel" "BulletinOfficeModel" "packets" "I") ∈ hv_ws := wm (wc_4 (List.mem_of_getElem? (i := 187) rfl)) rfl
theorem q_4_189 : (Jvm.Cond.laysFinal "BulletinOfficeModel" "BulletinOfficeModel" "buffer" "[I") ∈ hv_ws := wm (wc_4 (List.mem_of_getElem? (i := 189) rfl)) rfl
theorem q_4_191 : (Jvm.Cond.laysFinal "BulletinOfficeModel" "BulletinOfficeModel" "keys" "[I") ∈ hv_ws := wm (wc_4 (List.mem_of_getElem? (i := 191) rfl)) rfl
theorem q_4_193 : (Jvm.Cond.laysFinal "BulletinOfficeModel" "BulletinOfficeModel" "sizes" "[I") ∈ hv_ws := wm (wc_4 (List.mem_of_getElem? (i := 193) rfl)) rfl
theorem q_4_195 : (Jvm.Cond.laysFinal "BulletinOfficeModel" "BulletinOfficeModel" "packetBytes" "[I") ∈ hv_ws := wm (wc_4 (List.mem_of_getElem? (i := 195) rfl)) rfl
theorem q_4_197 : (Jvm.Cond.laysFinal "BulletinOfficeModel" "BulletinOfficeModel" "drifts" "[I") ∈ hv_ws := wm (wc_4 (List.mem_of_getElem? (i := 197) rfl)) rfl
theorem q_4_199 : (Jvm.Cond.laysFinal "BulletinOfficeModel" "BulletinOfficeModel" "knows" "[Z") ∈ hv_ws := wm (wc_4 (List.mem_of_getElem? (i := 199) rfl)) rfl
theorem q_4_201 : (Jvm.Cond.laysFinal "BulletinOfficeModel" "BulletinOfficeModel" "firsts" "[I") ∈ hv_ws := wm (wc_4 (List.mem_of_getElem? (i := 201) rfl)) rfl
theorem q_4_203 : (Jvm.Cond.laysFinal "BulletinOfficeModel" "BulletinOfficeModel" "latest" "[I") ∈ hv_ws := wm (wc_4 (List.mem_of_getElem? (i := 203) rfl)) rfl
theorem q_4_205 : (Jvm.Cond.laysFinal "BulletinOfficeModel" "BulletinOfficeModel" "latestKey" "[I") ∈ hv_ws := wm (wc_4 (List.mem_of_getElem? (i := 205) rfl)) rfl
theorem q_4_207 : (Jvm.Cond.laysFinal "BulletinOfficeModel" "BulletinOfficeModel" "counts" "[I") ∈ hv_ws := wm (wc_4 (List.mem_of_getElem? (i := 207) rfl)) rfl
theorem q_4_209 : (Jvm.Cond.laysFinal "BulletinOfficeModel" "BulletinOfficeModel" "held" "[I") ∈ hv_ws := wm (wc_4 (List.mem_of_getElem? (i := 209) rfl)) rfl
theorem q_4_211 : (Jvm.Cond.laysFinal "BulletinOfficeModel" "BulletinOfficeModel" "heldSize" "[I") ∈ hv_ws := wm (wc_4 (List.mem_of_getElem? (i := 211) rfl)) rfl
theorem q_4_213 : (Jvm.Cond.laysFinal "BulletinOfficeModel" "BulletinOfficeModel" "heldBytes" "[I") ∈ hv_ws := wm (wc_4 (List.mem_of_getElem? (i := 213) rfl)) rfl
theorem q_4_215 : (Jvm.Cond.laysFinal "BulletinOfficeModel" "BulletinOfficeModel" "out" "[I") ∈ hv_ws := wm (wc_4 (List.mem_of_getElem? (i := 215) rfl)) rfl
theorem q_4_217 : (Jvm.Cond.laysFinal "BulletinOfficeModel" "BulletinOfficeModel" "outInterval" "[I") ∈ hv_ws := wm (wc_4 (List.mem_of_getElem? (i := 217) rfl)) rfl
theorem q_4_219 : (Jvm.Cond.laysFinal "BulletinOfficeModel" "BulletinOfficeModel" "outCode" "[I") ∈ hv_ws := wm (wc_4 (List.mem_of_getElem? (i := 219) rfl)) rfl
theorem q_4_221 : (Jvm.Cond.laysFinal "BulletinOfficeModel" "BulletinOfficeModel" "outSize" "[I") ∈ hv_ws := wm (wc_4 (List.mem_of_getElem? (i := 221) rfl)) rfl
theorem q_4_223 : (Jvm.Cond.laysFinal "BulletinOfficeModel" "BulletinOfficeModel" "outBytes" "[I") ∈ hv_ws := wm (wc_4 (List.mem_of_getElem? (i := 223) rfl)) rfl
theorem q_4_225 : (Jvm.Cond.laysFinal "BulletinOfficeModel" "BulletinOfficeModel" "copy" "[I") ∈ hv_ws := wm (wc_4 (List.mem_of_getElem? (i := 225) rfl)) rfl
theorem q_4_227 : (Jvm.Cond.laysFinal "BulletinOfficeModel" "BulletinOfficeModel" "key" "[I") ∈ hv_ws := wm (wc_4 (List.mem_of_getElem? (i := 227) rfl)) rfl
theorem q_4_229 : (Jvm.Cond.laysFinal "BulletinOfficeModel" "BulletinOfficeModel" "mine" "[I") ∈ hv_ws := wm (wc_4 (List.mem_of_getElem? (i := 229) rfl)) rfl
theorem hin6 : ∀ w ∈ u_ws R6 T6 40, w ∈ hv_ws := by
  intro w hw
  obtain ⟨k, hk, rfl⟩ := List.mem_map.mp hw
  have hk := List.mem_range.mp hk
  match k, hk with
  | 0, _ => exact q_4_151
  | 1, _ => exact q_4_153
  | 2, _ => exact q_4_155
  | 3, _ => exact q_4_157
  | 4, _ => exact q_4_159
  | 5, _ => exact q_4_161
  | 6, _ => exact q_4_163
  | 7, _ => exact q_4_165
  | 8, _ => exact q_4_167
  | 9, _ => exact q_4_169
  | 10, _ => exact q_4_171
  | 11, _ => exact q_4_173
  | 12, _ => exact q_4_175
  | 13, _ => exact q_4_177
  | 14, _ => exact q_4_179
  | 15, _ => exact q_4_181
  | 16, _ => exact q_4_183
  | 17, _ => exact q_4_185
  | 18, _ => exact q_4_187
  | 19, _ => exact q_4_189
  | 20, _ => exact q_4_191
  | 21, _ => exact q_4_193
  | 22, _ => exact q_4_195
  | 23, _ => exact q_4_197
  | 24, _ => exact q_4_199
  | 25, _ => exact q_4_201
  | 26, _ => exact q_4_203
  | 27, _ => exact q_4_205
  | 28, _ => exact q_4_207
  | 29, _ => exact q_4_209
  | 30, _ => exact q_4_211
  | 31, _ => exact q_4_213
  | 32, _ => exact q_4_215
  | 33, _ => exact q_4_217
  | 34, _ => exact q_4_219
  | 35, _ => exact q_4_221
  | 36, _ => exact q_4_223
  | 37, _ => exact q_4_225
  | 38, _ => exact q_4_227
  | 39, _ => exact q_4_229
  | n + 40, h => exact absurd h (by omega)
theorem q_4_123 : (Jvm.Cond.fieldLink "BulletinOfficeModel" (189 : Nat) "BulletinOfficeModel" "thrown" "I") ∈ hv_ws := wm (wc_4 (List.mem_of_getElem? (i := 123) rfl)) rfl
theorem fa_Md_189 : hv_fa "BulletinOfficeModel" 189 6 12 := ⟨R6, T6, 40, "BulletinOfficeModel", rfl, hin6, by decide, Or.inl q_4_123, Or.inl rfl⟩
theorem fp_Md_189 : hv_fp "BulletinOfficeModel" 189 6 12 (.int) false := ⟨R6, T6, 40, "BulletinOfficeModel", ty6, rfl, hin6, by decide, Or.inl q_4_123, Or.inl rfl, tk6, nm6, rfl, (fun h => by cases h), tk6 12 (by decide)⟩
theorem q_4_127 : (Jvm.Cond.fieldLink "BulletinOfficeModel" (217 : Nat) "BulletinOfficeModel" "time" "I") ∈ hv_ws := wm (wc_4 (List.mem_of_getElem? (i := 127) rfl)) rfl
theorem fa_Md_217 : hv_fa "BulletinOfficeModel" 217 6 16 := ⟨R6, T6, 40, "BulletinOfficeModel", rfl, hin6, by decide, Or.inl q_4_127, Or.inl rfl⟩
theorem q_4_125 : (Jvm.Cond.fieldLink "BulletinOfficeModel" (183 : Nat) "BulletinOfficeModel" "ticks" "I") ∈ hv_ws := wm (wc_4 (List.mem_of_getElem? (i := 125) rfl)) rfl
theorem fa_Md_183 : hv_fa "BulletinOfficeModel" 183 6 14 := ⟨R6, T6, 40, "BulletinOfficeModel", rfl, hin6, by decide, Or.inl q_4_125, Or.inl rfl⟩
theorem q_4_131 : (Jvm.Cond.fieldLink "BulletinOfficeModel" (112 : Nat) "BulletinOfficeModel" "keys" "[I") ∈ hv_ws := wm (wc_4 (List.mem_of_getElem? (i := 131) rfl)) rfl
theorem fa_Md_112 : hv_fa "BulletinOfficeModel" 112 6 20 := ⟨R6, T6, 40, "BulletinOfficeModel", rfl, hin6, by decide, Or.inl q_4_131, Or.inl rfl⟩
theorem q_4_113 : (Jvm.Cond.fieldLink "BulletinOfficeModel" (88 : Nat) "BulletinOfficeModel" "words" "[I") ∈ hv_ws := wm (wc_4 (List.mem_of_getElem? (i := 113) rfl)) rfl
theorem fa_Md_88 : hv_fa "BulletinOfficeModel" 88 6 2 := ⟨R6, T6, 40, "BulletinOfficeModel", rfl, hin6, by decide, Or.inl q_4_113, Or.inl rfl⟩
theorem q_5_26 : (Jvm.Cond.code ({ cls := "BulletinOfficeModel", name := "turned", desc := "(II)I" } : Jvm.MethodName) prog_8_method_6_code (2 : Nat) (Option.some Jvm.ClassFile.FieldType.int)) ∈ hv_ws := wm (wc_5 (List.mem_of_getElem? (i := 26) rfl)) rfl
theorem q_1_10 : (Jvm.Cond.initialized "BulletinOfficeModel") ∈ hv_ws := wm (wc_1 (List.mem_of_getElem? (i := 10) rfl)) rfl
theorem q_5_24 : (Jvm.Cond.methodLink "BulletinOfficeModel" (192 : Nat) ({ cls := "BulletinOfficeModel", name := "turned", desc := "(II)I" } : Jvm.MethodName)) ∈ hv_ws := wm (wc_5 (List.mem_of_getElem? (i := 24) rfl)) rfl
theorem cs_Md_192 : hv_cs "BulletinOfficeModel" 192 y_Md_turned b_Md_turned 2 (some (.int)) 2 := ⟨q_5_26, q_1_10, ⟨by decide, by decide⟩, by decide +kernel, Or.inl q_5_24⟩
theorem q_5_25 : (Jvm.Cond.static ({ cls := "BulletinOfficeModel", name := "turned", desc := "(II)I" } : Jvm.MethodName)) ∈ hv_ws := wm (wc_5 (List.mem_of_getElem? (i := 25) rfl)) rfl
theorem q_4_116 : (Jvm.Cond.fieldLink "BulletinOfficeModel" (97 : Nat) "BulletinOfficeModel" "row" "[I") ∈ hv_ws := wm (wc_4 (List.mem_of_getElem? (i := 116) rfl)) rfl
theorem fa_Md_97 : hv_fa "BulletinOfficeModel" 97 6 5 := ⟨R6, T6, 40, "BulletinOfficeModel", rfl, hin6, by decide, Or.inl q_4_116, Or.inl rfl⟩
theorem q_4_115 : (Jvm.Cond.fieldLink "BulletinOfficeModel" (94 : Nat) "BulletinOfficeModel" "state" "[I") ∈ hv_ws := wm (wc_4 (List.mem_of_getElem? (i := 115) rfl)) rfl
theorem fa_Md_94 : hv_fa "BulletinOfficeModel" 94 6 4 := ⟨R6, T6, 40, "BulletinOfficeModel", rfl, hin6, by decide, Or.inl q_4_115, Or.inl rfl⟩
theorem q_4_114 : (Jvm.Cond.fieldLink "BulletinOfficeModel" (91 : Nat) "BulletinOfficeModel" "digest" "[I") ∈ hv_ws := wm (wc_4 (List.mem_of_getElem? (i := 114) rfl)) rfl
theorem fa_Md_91 : hv_fa "BulletinOfficeModel" 91 6 3 := ⟨R6, T6, 40, "BulletinOfficeModel", rfl, hin6, by decide, Or.inl q_4_114, Or.inl rfl⟩
theorem q_4_111 : (Jvm.Cond.fieldLink "BulletinOfficeModel" (71 : Nat) "BulletinOfficeModel" "constants" "[I") ∈ hv_ws := wm (wc_4 (List.mem_of_getElem? (i := 111) rfl)) rfl
theorem fa_Md_71 : hv_fa "BulletinOfficeModel" 71 6 0 := ⟨R6, T6, 40, "BulletinOfficeModel", rfl, hin6, by decide, Or.inl q_4_111, Or.inl rfl⟩
theorem q_4_112 : (Jvm.Cond.fieldLink "BulletinOfficeModel" (85 : Nat) "BulletinOfficeModel" "begins" "[I") ∈ hv_ws := wm (wc_4 (List.mem_of_getElem? (i := 112) rfl)) rfl
theorem fa_Md_85 : hv_fa "BulletinOfficeModel" 85 6 1 := ⟨R6, T6, 40, "BulletinOfficeModel", rfl, hin6, by decide, Or.inl q_4_112, Or.inl rfl⟩
theorem q_4_117 : (Jvm.Cond.fieldLink "BulletinOfficeModel" (195 : Nat) "BulletinOfficeModel" "rowSize" "I") ∈ hv_ws := wm (wc_4 (List.mem_of_getElem? (i := 117) rfl)) rfl
theorem fa_Md_195 : hv_fa "BulletinOfficeModel" 195 6 6 := ⟨R6, T6, 40, "BulletinOfficeModel", rfl, hin6, by decide, Or.inl q_4_117, Or.inl rfl⟩
theorem q_5_23 : (Jvm.Cond.code ({ cls := "BulletinOfficeModel", name := "block", desc := "(I)V" } : Jvm.MethodName) prog_8_method_7_code (8 : Nat) (Option.none : Option Jvm.ClassFile.FieldType)) ∈ hv_ws := wm (wc_5 (List.mem_of_getElem? (i := 23) rfl)) rfl
theorem q_5_20 : (Jvm.Cond.methodLink "BulletinOfficeModel" (198 : Nat) ({ cls := "BulletinOfficeModel", name := "block", desc := "(I)V" } : Jvm.MethodName)) ∈ hv_ws := wm (wc_5 (List.mem_of_getElem? (i := 20) rfl)) rfl
theorem cs_Md_198 : hv_cs "BulletinOfficeModel" 198 y_Md_block b_Md_block 8 none 1 := ⟨q_5_23, q_1_10, ⟨by decide, by decide⟩, by decide +kernel, Or.inl q_5_20⟩
theorem q_5_22 : (Jvm.Cond.instanceMethod ({ cls := "BulletinOfficeModel", name := "block", desc := "(I)V" } : Jvm.MethodName)) ∈ hv_ws := wm (wc_5 (List.mem_of_getElem? (i := 22) rfl)) rfl
theorem qs_Md_block : Cond.selects y_Md_block.cls y_Md_block y_Md_block ∈ hv_ws := wp (q := (y_Md_block, 40)) (List.mem_append_right _ (List.mem_append_left _ (List.mem_of_getElem? (i := 6) rfl))) rfl
theorem q_4_119 : (Jvm.Cond.fieldLink "BulletinOfficeModel" (202 : Nat) "BulletinOfficeModel" "sealKeySize" "I") ∈ hv_ws := wm (wc_4 (List.mem_of_getElem? (i := 119) rfl)) rfl
theorem fa_Md_202 : hv_fa "BulletinOfficeModel" 202 6 8 := ⟨R6, T6, 40, "BulletinOfficeModel", rfl, hin6, by decide, Or.inl q_4_119, Or.inl rfl⟩
theorem q_4_118 : (Jvm.Cond.fieldLink "BulletinOfficeModel" (100 : Nat) "BulletinOfficeModel" "sealKey" "[I") ∈ hv_ws := wm (wc_4 (List.mem_of_getElem? (i := 118) rfl)) rfl
theorem fa_Md_100 : hv_fa "BulletinOfficeModel" 100 6 7 := ⟨R6, T6, 40, "BulletinOfficeModel", rfl, hin6, by decide, Or.inl q_4_118, Or.inl rfl⟩
theorem q_4_121 : (Jvm.Cond.fieldLink "BulletinOfficeModel" (205 : Nat) "BulletinOfficeModel" "messageSize" "I") ∈ hv_ws := wm (wc_4 (List.mem_of_getElem? (i := 121) rfl)) rfl
theorem fa_Md_205 : hv_fa "BulletinOfficeModel" 205 6 10 := ⟨R6, T6, 40, "BulletinOfficeModel", rfl, hin6, by decide, Or.inl q_4_121, Or.inl rfl⟩
theorem q_4_120 : (Jvm.Cond.fieldLink "BulletinOfficeModel" (103 : Nat) "BulletinOfficeModel" "message" "[I") ∈ hv_ws := wm (wc_4 (List.mem_of_getElem? (i := 120) rfl)) rfl
theorem fa_Md_103 : hv_fa "BulletinOfficeModel" 103 6 9 := ⟨R6, T6, 40, "BulletinOfficeModel", rfl, hin6, by decide, Or.inl q_4_120, Or.inl rfl⟩
theorem q_5_19 : (Jvm.Cond.code ({ cls := "BulletinOfficeModel", name := "digestRow", desc := "()V" } : Jvm.MethodName) prog_8_method_8_code (4 : Nat) (Option.none : Option Jvm.ClassFile.FieldType)) ∈ hv_ws := wm (wc_5 (List.mem_of_getElem? (i := 19) rfl)) rfl
theorem q_5_16 : (Jvm.Cond.methodLink "BulletinOfficeModel" (208 : Nat) ({ cls := "BulletinOfficeModel", name := "digestRow", desc := "()V" } : Jvm.MethodName)) ∈ hv_ws := wm (wc_5 (List.mem_of_getElem? (i := 16) rfl)) rfl
theorem cs_Md_208 : hv_cs "BulletinOfficeModel" 208 y_Md_digestRow b_Md_digestRow 4 none 0 := ⟨q_5_19, q_1_10, ⟨by decide, by decide⟩, by decide +kernel, Or.inl q_5_16⟩
theorem q_5_18 : (Jvm.Cond.instanceMethod ({ cls := "BulletinOfficeModel", name := "digestRow", desc := "()V" } : Jvm.MethodName)) ∈ hv_ws := wm (wc_5 (List.mem_of_getElem? (i := 18) rfl)) rfl
theorem qs_Md_digestRow : Cond.selects y_Md_digestRow.cls y_Md_digestRow y_Md_digestRow ∈ hv_ws := wp (q := (y_Md_digestRow, 40)) (List.mem_append_right _ (List.mem_append_left _ (List.mem_of_getElem? (i := 5) rfl))) rfl
theorem q_4_122 : (Jvm.Cond.fieldLink "BulletinOfficeModel" (106 : Nat) "BulletinOfficeModel" "seal" "[I") ∈ hv_ws := wm (wc_4 (List.mem_of_getElem? (i := 122) rfl)) rfl
theorem fa_Md_106 : hv_fa "BulletinOfficeModel" 106 6 11 := ⟨R6, T6, 40, "BulletinOfficeModel", rfl, hin6, by decide, Or.inl q_4_122, Or.inl rfl⟩
theorem q_5_7 : (Jvm.Cond.code ({ cls := "BulletinOfficeModel", name := "byteOf", desc := "(II)I" } : Jvm.MethodName) prog_8_method_9_code (2 : Nat) (Option.some Jvm.ClassFile.FieldType.int)) ∈ hv_ws := wm (wc_5 (List.mem_of_getElem? (i := 7) rfl)) rfl
theorem q_5_5 : (Jvm.Cond.methodLink "BulletinOfficeModel" (211 : Nat) ({ cls := "BulletinOfficeModel", name := "byteOf", desc := "(II)I" } : Jvm.MethodName)) ∈ hv_ws := wm (wc_5 (List.mem_of_getElem? (i := 5) rfl)) rfl
theorem cs_Md_211 : hv_cs "BulletinOfficeModel" 211 y_Md_byteOf b_Md_byteOf 2 (some (.int)) 2 := ⟨q_5_7, q_1_10, ⟨by decide, by decide⟩, by decide +kernel, Or.inl q_5_5⟩
theorem q_5_6 : (Jvm.Cond.static ({ cls := "BulletinOfficeModel", name := "byteOf", desc := "(II)I" } : Jvm.MethodName)) ∈ hv_ws := wm (wc_5 (List.mem_of_getElem? (i := 6) rfl)) rfl
theorem fp_Md_195 : hv_fp "BulletinOfficeModel" 195 6 6 (.int) false := ⟨R6, T6, 40, "BulletinOfficeModel", ty6, rfl, hin6, by decide, Or.inl q_4_117, Or.inl rfl, tk6, nm6, rfl, (fun h => by cases h), tk6 6 (by decide)⟩
theorem q_4_149 : (Jvm.Cond.fieldLink "BulletinOfficeModel" (169 : Nat) "BulletinOfficeModel" "key" "[I") ∈ hv_ws := wm (wc_4 (List.mem_of_getElem? (i := 149) rfl)) rfl
theorem fa_Md_169 : hv_fa "BulletinOfficeModel" 169 6 38 := ⟨R6, T6, 40, "BulletinOfficeModel", rfl, hin6, by decide, Or.inl q_4_149, Or.inl rfl⟩
theorem q_5_15 : (Jvm.Cond.code ({ cls := "BulletinOfficeModel", name := "makeSeal", desc := "()V" } : Jvm.MethodName) prog_8_method_10_code (2 : Nat) (Option.none : Option Jvm.ClassFile.FieldType)) ∈ hv_ws := wm (wc_5 (List.mem_of_getElem? (i := 15) rfl)) rfl
theorem q_5_12 : (Jvm.Cond.methodLink "BulletinOfficeModel" (214 : Nat) ({ cls := "BulletinOfficeModel", name := "makeSeal", desc := "()V" } : Jvm.MethodName)) ∈ hv_ws := wm (wc_5 (List.mem_of_getElem? (i := 12) rfl)) rfl
theorem cs_Md_214 : hv_cs "BulletinOfficeModel" 214 y_Md_makeSeal b_Md_makeSeal 2 none 0 := ⟨q_5_15, q_1_10, ⟨by decide, by decide⟩, by decide +kernel, Or.inl q_5_12⟩
theorem q_5_14 : (Jvm.Cond.instanceMethod ({ cls := "BulletinOfficeModel", name := "makeSeal", desc := "()V" } : Jvm.MethodName)) ∈ hv_ws := wm (wc_5 (List.mem_of_getElem? (i := 14) rfl)) rfl
theorem qs_Md_makeSeal : Cond.selects y_Md_makeSeal.cls y_Md_makeSeal y_Md_makeSeal ∈ hv_ws := wp (q := (y_Md_makeSeal, 40)) (List.mem_append_right _ (List.mem_append_left _ (List.mem_of_getElem? (i := 4) rfl))) rfl
theorem fp_Md_205 : hv_fp "BulletinOfficeModel" 205 6 10 (.int) false := ⟨R6, T6, 40, "BulletinOfficeModel", ty6, rfl, hin6, by decide, Or.inl q_4_121, Or.inl rfl, tk6, nm6, rfl, (fun h => by cases h), tk6 10 (by decide)⟩
theorem fp_Md_202 : hv_fp "BulletinOfficeModel" 202 6 8 (.int) false := ⟨R6, T6, 40, "BulletinOfficeModel", ty6, rfl, hin6, by decide, Or.inl q_4_119, Or.inl rfl, tk6, nm6, rfl, (fun h => by cases h), tk6 8 (by decide)⟩
theorem q_4_148 : (Jvm.Cond.fieldLink "BulletinOfficeModel" (166 : Nat) "BulletinOfficeModel" "copy" "[I") ∈ hv_ws := wm (wc_4 (List.mem_of_getElem? (i := 148) rfl)) rfl
theorem fa_Md_166 : hv_fa "BulletinOfficeModel" 166 6 37 := ⟨R6, T6, 40, "BulletinOfficeModel", rfl, hin6, by decide, Or.inl q_4_148, Or.inl rfl⟩
