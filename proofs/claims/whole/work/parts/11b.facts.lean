theorem fp_Ck_16 : hv_fp "BulletinOffice$Clock" 16 0 2 (.int) true := ⟨R0, T0, 4, "BulletinOffice$Clock", ty0, rfl, hin0, by decide, Or.inl q_1_45, Or.inl rfl, tk0, nm0, rfl, (fun _ => rfl), tk0 2 (by decide)⟩
theorem fp_Ck_13 : hv_fp "BulletinOffice$Clock" 13 0 1 (.int) true := ⟨R0, T0, 4, "BulletinOffice$Clock", ty0, rfl, hin0, by decide, Or.inl q_1_44, Or.inl rfl, tk0, nm0, rfl, (fun _ => rfl), tk0 1 (by decide)⟩
theorem fp_Ck_7 : hv_fp "BulletinOffice$Clock" 7 0 0 (.int) true := ⟨R0, T0, 4, "BulletinOffice$Clock", ty0, rfl, hin0, by decide, Or.inl q_1_41, Or.inl rfl, tk0, nm0, rfl, (fun _ => rfl), tk0 0 (by decide)⟩
theorem q_1_40 : (Jvm.Cond.methodLink "BulletinOffice$Clock" (1 : Nat) ({ cls := "java/lang/Object", name := "<init>", desc := "()V" } : Jvm.MethodName)) ∈ hv_ws := wm (wc_1 (List.mem_of_getElem? (i := 40) rfl)) rfl
theorem q_1_30 : (Jvm.Cond.instanceMethod ({ cls := "java/lang/Object", name := "<init>", desc := "()V" } : Jvm.MethodName)) ∈ hv_ws := wm (wc_1 (List.mem_of_getElem? (i := 30) rfl)) rfl
theorem q_1_31 : (Jvm.Cond.code ({ cls := "java/lang/Object", name := "<init>", desc := "()V" } : Jvm.MethodName) object_method_1_code (1 : Nat) (Option.none : Option Jvm.ClassFile.FieldType)) ∈ hv_ws := wm (wc_1 (List.mem_of_getElem? (i := 31) rfl)) rfl
theorem fp_Sl_19 : hv_fp "BulletinOffice$Sealer" 19 1 4 (.array (.int)) true := ⟨R1, T1, 5, "BulletinOffice$Sealer", ty1, rfl, hin1, by decide, Or.inl q_1_71, Or.inl rfl, tk1, nm1, rfl, (fun _ => rfl), tk1 4 (by decide)⟩
theorem q_1_83 : (Jvm.Cond.arrayClass Jvm.ClassFile.FieldType.int) ∈ hv_ws := wm (wc_1 (List.mem_of_getElem? (i := 83) rfl)) rfl
theorem fp_Sl_16 : hv_fp "BulletinOffice$Sealer" 16 1 2 (.array (.int)) true := ⟨R1, T1, 5, "BulletinOffice$Sealer", ty1, rfl, hin1, by decide, Or.inl q_1_69, Or.inl rfl, tk1, nm1, rfl, (fun _ => rfl), tk1 2 (by decide)⟩
theorem q_1_67 : (Jvm.Cond.fieldLink "BulletinOffice$Sealer" (13 : Nat) "BulletinOffice$Sealer" "codeKey" "[I") ∈ hv_ws := wm (wc_1 (List.mem_of_getElem? (i := 67) rfl)) rfl
theorem fp_Sl_13 : hv_fp "BulletinOffice$Sealer" 13 1 1 (.array (.int)) true := ⟨R1, T1, 5, "BulletinOffice$Sealer", ty1, rfl, hin1, by decide, Or.inl q_1_67, Or.inl rfl, tk1, nm1, rfl, (fun _ => rfl), tk1 1 (by decide)⟩
theorem fp_Sl_9 : hv_fp "BulletinOffice$Sealer" 9 1 0 (.array (.int)) true := ⟨R1, T1, 5, "BulletinOffice$Sealer", ty1, rfl, hin1, by decide, Or.inl q_1_63, Or.inl rfl, tk1, nm1, rfl, (fun _ => rfl), tk1 0 (by decide)⟩
theorem q_1_62 : (Jvm.Cond.methodLink "BulletinOffice$Sealer" (3 : Nat) ({ cls := "java/lang/Object", name := "<init>", desc := "()V" } : Jvm.MethodName)) ∈ hv_ws := wm (wc_1 (List.mem_of_getElem? (i := 62) rfl)) rfl
theorem q_1_96 : (Jvm.Cond.laysFinal "BulletinOffice$KeyChain" "BulletinOffice$KeyChain" "words" "[I") ∈ hv_ws := wm (wc_1 (List.mem_of_getElem? (i := 96) rfl)) rfl
theorem q_1_98 : (Jvm.Cond.lays "BulletinOffice$KeyChain" "BulletinOffice$KeyChain" "first" "I") ∈ hv_ws := wm (wc_1 (List.mem_of_getElem? (i := 98) rfl)) rfl
theorem q_1_100 : (Jvm.Cond.lays "BulletinOffice$KeyChain" "BulletinOffice$KeyChain" "latest" "I") ∈ hv_ws := wm (wc_1 (List.mem_of_getElem? (i := 100) rfl)) rfl
theorem hin2 : ∀ w ∈ u_ws R2 T2 3, w ∈ hv_ws := by
  intro w hw
  obtain ⟨k, hk, rfl⟩ := List.mem_map.mp hw
  have hk := List.mem_range.mp hk
  match k, hk with
  | 0, _ => exact q_1_96
  | 1, _ => exact q_1_98
  | 2, _ => exact q_1_100
  | n + 3, h => exact absurd h (by omega)
theorem q_1_94 : (Jvm.Cond.fieldLink "BulletinOffice$KeyChain" (19 : Nat) "BulletinOffice$KeyChain" "latest" "I") ∈ hv_ws := wm (wc_1 (List.mem_of_getElem? (i := 94) rfl)) rfl
theorem fp_Kc_19 : hv_fp "BulletinOffice$KeyChain" 19 2 2 (.int) false := ⟨R2, T2, 3, "BulletinOffice$KeyChain", ty2, rfl, hin2, by decide, Or.inl q_1_94, Or.inl rfl, tk2, nm2, rfl, (fun h => by cases h), tk2 2 (by decide)⟩
theorem q_1_92 : (Jvm.Cond.fieldLink "BulletinOffice$KeyChain" (15 : Nat) "BulletinOffice$KeyChain" "first" "I") ∈ hv_ws := wm (wc_1 (List.mem_of_getElem? (i := 92) rfl)) rfl
theorem fp_Kc_15 : hv_fp "BulletinOffice$KeyChain" 15 2 1 (.int) false := ⟨R2, T2, 3, "BulletinOffice$KeyChain", ty2, rfl, hin2, by decide, Or.inl q_1_92, Or.inl rfl, tk2, nm2, rfl, (fun h => by cases h), tk2 1 (by decide)⟩
theorem q_1_91 : (Jvm.Cond.fieldLink "BulletinOffice$KeyChain" (9 : Nat) "BulletinOffice$KeyChain" "words" "[I") ∈ hv_ws := wm (wc_1 (List.mem_of_getElem? (i := 91) rfl)) rfl
theorem fp_Kc_9 : hv_fp "BulletinOffice$KeyChain" 9 2 0 (.array (.int)) true := ⟨R2, T2, 3, "BulletinOffice$KeyChain", ty2, rfl, hin2, by decide, Or.inl q_1_91, Or.inl rfl, tk2, nm2, rfl, (fun _ => rfl), tk2 0 (by decide)⟩
theorem q_1_90 : (Jvm.Cond.methodLink "BulletinOffice$KeyChain" (3 : Nat) ({ cls := "java/lang/Object", name := "<init>", desc := "()V" } : Jvm.MethodName)) ∈ hv_ws := wm (wc_1 (List.mem_of_getElem? (i := 90) rfl)) rfl
theorem q_2_187 : (Jvm.Cond.laysFinal "BulletinOffice$Packet" "BulletinOffice$Packet" "bytes" "[I") ∈ hv_ws := wm (wc_2 (List.mem_of_getElem? (i := 187) rfl)) rfl
theorem hin3 : ∀ w ∈ u_ws R3 T3 1, w ∈ hv_ws := by
  intro w hw
  obtain ⟨k, hk, rfl⟩ := List.mem_map.mp hw
  have hk := List.mem_range.mp hk
  match k, hk with
  | 0, _ => exact q_2_187
  | n + 1, h => exact absurd h (by omega)
theorem q_2_183 : (Jvm.Cond.fieldLink "BulletinOffice$Packet" (11 : Nat) "BulletinOffice$Packet" "bytes" "[I") ∈ hv_ws := wm (wc_2 (List.mem_of_getElem? (i := 183) rfl)) rfl
theorem fa_Pk_11 : hv_fa "BulletinOffice$Packet" 11 3 0 := ⟨R3, T3, 1, "BulletinOffice$Packet", rfl, hin3, by decide, Or.inl q_2_183, Or.inl rfl⟩
theorem fp_Pk_11 : hv_fp "BulletinOffice$Packet" 11 3 0 (.array (.int)) true := ⟨R3, T3, 1, "BulletinOffice$Packet", ty3, rfl, hin3, by decide, Or.inl q_2_183, Or.inl rfl, tk3, nm3, rfl, (fun _ => rfl), tk3 0 (by decide)⟩
theorem q_2_182 : (Jvm.Cond.methodLink "BulletinOffice$Packet" (5 : Nat) ({ cls := "java/lang/Object", name := "<init>", desc := "()V" } : Jvm.MethodName)) ∈ hv_ws := wm (wc_2 (List.mem_of_getElem? (i := 182) rfl)) rfl
theorem q_2_200 : (Jvm.Cond.code ({ cls := "BulletinOffice", name := "wordAt", desc := "([II)I" } : Jvm.MethodName) prog_1_method_24_code (2 : Nat) (Option.some Jvm.ClassFile.FieldType.int)) ∈ hv_ws := wm (wc_2 (List.mem_of_getElem? (i := 200) rfl)) rfl
theorem q_1_1 : (Jvm.Cond.initialized "BulletinOffice") ∈ hv_ws := wm (wc_1 (List.mem_of_getElem? (i := 1) rfl)) rfl
theorem cs_Pk_20 : hv_cs "BulletinOffice$Packet" 20 y_Of_wordAt b_Of_wordAt 2 (some (.int)) 2 := ⟨q_2_200, q_1_1, ⟨by decide, by decide⟩, by decide +kernel, Or.inr ⟨"BulletinOffice", List.mem_of_getElem? (i := 3) rfl⟩⟩
theorem q_2_199 : (Jvm.Cond.static ({ cls := "BulletinOffice", name := "wordAt", desc := "([II)I" } : Jvm.MethodName)) ∈ hv_ws := wm (wc_2 (List.mem_of_getElem? (i := 199) rfl)) rfl
theorem q_2_217 : (Jvm.Cond.code ({ cls := "BulletinOffice$Packet", name := "size", desc := "()I" } : Jvm.MethodName) prog_4_method_5_code (1 : Nat) (Option.some Jvm.ClassFile.FieldType.int)) ∈ hv_ws := wm (wc_2 (List.mem_of_getElem? (i := 217) rfl)) rfl
theorem q_1_20 : (Jvm.Cond.initialized "BulletinOffice$Packet") ∈ hv_ws := wm (wc_1 (List.mem_of_getElem? (i := 20) rfl)) rfl
theorem q_2_214 : (Jvm.Cond.methodLink "BulletinOffice$Packet" (24 : Nat) ({ cls := "BulletinOffice$Packet", name := "size", desc := "()I" } : Jvm.MethodName)) ∈ hv_ws := wm (wc_2 (List.mem_of_getElem? (i := 214) rfl)) rfl
theorem cs_Pk_24 : hv_cs "BulletinOffice$Packet" 24 y_Pk_size b_Pk_size 1 (some (.int)) 0 := ⟨q_2_217, q_1_20, ⟨by decide, by decide⟩, by decide +kernel, Or.inl q_2_214⟩
theorem q_2_215 : (Jvm.Cond.instanceMethod ({ cls := "BulletinOffice$Packet", name := "size", desc := "()I" } : Jvm.MethodName)) ∈ hv_ws := wm (wc_2 (List.mem_of_getElem? (i := 215) rfl)) rfl
theorem q_2_216 : (Jvm.Cond.selects "BulletinOffice$Packet" ({ cls := "BulletinOffice$Packet", name := "size", desc := "()I" } : Jvm.MethodName) ({ cls := "BulletinOffice$Packet", name := "size", desc := "()I" } : Jvm.MethodName)) ∈ hv_ws := wm (wc_2 (List.mem_of_getElem? (i := 216) rfl)) rfl
theorem q_2_213 : (Jvm.Cond.code ({ cls := "BulletinOffice$Packet", name := "codeAt", desc := "()I" } : Jvm.MethodName) prog_4_method_6_code (1 : Nat) (Option.some Jvm.ClassFile.FieldType.int)) ∈ hv_ws := wm (wc_2 (List.mem_of_getElem? (i := 213) rfl)) rfl
theorem q_2_222 : (Jvm.Cond.methodLink "BulletinOffice$Packet" (28 : Nat) ({ cls := "BulletinOffice$Packet", name := "codeAt", desc := "()I" } : Jvm.MethodName)) ∈ hv_ws := wm (wc_2 (List.mem_of_getElem? (i := 222) rfl)) rfl
theorem cs_Pk_28 : hv_cs "BulletinOffice$Packet" 28 y_Pk_codeAt b_Pk_codeAt 1 (some (.int)) 0 := ⟨q_2_213, q_1_20, ⟨by decide, by decide⟩, by decide +kernel, Or.inl q_2_222⟩
theorem q_2_211 : (Jvm.Cond.instanceMethod ({ cls := "BulletinOffice$Packet", name := "codeAt", desc := "()I" } : Jvm.MethodName)) ∈ hv_ws := wm (wc_2 (List.mem_of_getElem? (i := 211) rfl)) rfl
theorem q_2_212 : (Jvm.Cond.selects "BulletinOffice$Packet" ({ cls := "BulletinOffice$Packet", name := "codeAt", desc := "()I" } : Jvm.MethodName) ({ cls := "BulletinOffice$Packet", name := "codeAt", desc := "()I" } : Jvm.MethodName)) ∈ hv_ws := wm (wc_2 (List.mem_of_getElem? (i := 212) rfl)) rfl
theorem q_2_197 : (Jvm.Cond.code ({ cls := "BulletinOffice$Packet", name := "interval", desc := "()I" } : Jvm.MethodName) prog_4_method_3_code (1 : Nat) (Option.some Jvm.ClassFile.FieldType.int)) ∈ hv_ws := wm (wc_2 (List.mem_of_getElem? (i := 197) rfl)) rfl
theorem q_3_154 : (Jvm.Cond.methodLink "BulletinOffice$Packet" (31 : Nat) ({ cls := "BulletinOffice$Packet", name := "interval", desc := "()I" } : Jvm.MethodName)) ∈ hv_ws := wm (wc_3 (List.mem_of_getElem? (i := 154) rfl)) rfl
theorem cs_Pk_31 : hv_cs "BulletinOffice$Packet" 31 y_Pk_interval b_Pk_interval 1 (some (.int)) 0 := ⟨q_2_197, q_1_20, ⟨by decide, by decide⟩, by decide +kernel, Or.inl q_3_154⟩
theorem q_2_195 : (Jvm.Cond.instanceMethod ({ cls := "BulletinOffice$Packet", name := "interval", desc := "()I" } : Jvm.MethodName)) ∈ hv_ws := wm (wc_2 (List.mem_of_getElem? (i := 195) rfl)) rfl
theorem q_2_196 : (Jvm.Cond.selects "BulletinOffice$Packet" ({ cls := "BulletinOffice$Packet", name := "interval", desc := "()I" } : Jvm.MethodName) ({ cls := "BulletinOffice$Packet", name := "interval", desc := "()I" } : Jvm.MethodName)) ∈ hv_ws := wm (wc_2 (List.mem_of_getElem? (i := 196) rfl)) rfl
theorem q_3_158 : (Jvm.Cond.code ({ cls := "BulletinOffice$Packet", name := "kind", desc := "()I" } : Jvm.MethodName) prog_4_method_4_code (1 : Nat) (Option.some Jvm.ClassFile.FieldType.int)) ∈ hv_ws := wm (wc_3 (List.mem_of_getElem? (i := 158) rfl)) rfl
theorem q_3_155 : (Jvm.Cond.methodLink "BulletinOffice$Packet" (34 : Nat) ({ cls := "BulletinOffice$Packet", name := "kind", desc := "()I" } : Jvm.MethodName)) ∈ hv_ws := wm (wc_3 (List.mem_of_getElem? (i := 155) rfl)) rfl
theorem cs_Pk_34 : hv_cs "BulletinOffice$Packet" 34 y_Pk_kind b_Pk_kind 1 (some (.int)) 0 := ⟨q_3_158, q_1_20, ⟨by decide, by decide⟩, by decide +kernel, Or.inl q_3_155⟩
theorem q_3_156 : (Jvm.Cond.instanceMethod ({ cls := "BulletinOffice$Packet", name := "kind", desc := "()I" } : Jvm.MethodName)) ∈ hv_ws := wm (wc_3 (List.mem_of_getElem? (i := 156) rfl)) rfl
theorem q_3_157 : (Jvm.Cond.selects "BulletinOffice$Packet" ({ cls := "BulletinOffice$Packet", name := "kind", desc := "()I" } : Jvm.MethodName) ({ cls := "BulletinOffice$Packet", name := "kind", desc := "()I" } : Jvm.MethodName)) ∈ hv_ws := wm (wc_3 (List.mem_of_getElem? (i := 157) rfl)) rfl
theorem q_2_148 : (Jvm.Cond.code ({ cls := "BulletinOffice", name := "byteOf", desc := "([II)I" } : Jvm.MethodName) prog_1_method_23_code (2 : Nat) (Option.some Jvm.ClassFile.FieldType.int)) ∈ hv_ws := wm (wc_2 (List.mem_of_getElem? (i := 148) rfl)) rfl
theorem cs_Pk_37 : hv_cs "BulletinOffice$Packet" 37 y_Of_byteOf b_Of_byteOf 2 (some (.int)) 2 := ⟨q_2_148, q_1_1, ⟨by decide, by decide⟩, by decide +kernel, Or.inr ⟨"BulletinOffice", List.mem_of_getElem? (i := 4) rfl⟩⟩
theorem q_2_147 : (Jvm.Cond.static ({ cls := "BulletinOffice", name := "byteOf", desc := "([II)I" } : Jvm.MethodName)) ∈ hv_ws := wm (wc_2 (List.mem_of_getElem? (i := 147) rfl)) rfl
theorem fa_Kc_19 : hv_fa "BulletinOffice$KeyChain" 19 2 2 := ⟨R2, T2, 3, "BulletinOffice$KeyChain", rfl, hin2, by decide, Or.inl q_1_94, Or.inl rfl⟩
theorem fa_Kc_9 : hv_fa "BulletinOffice$KeyChain" 9 2 0 := ⟨R2, T2, 3, "BulletinOffice$KeyChain", rfl, hin2, by decide, Or.inl q_1_91, Or.inl rfl⟩
theorem q_2_48 : (Jvm.Cond.fieldLink "BulletinOffice$KeyChain" (22 : Nat) "BulletinOffice$KeyChain" "CHAIN_TEXT" "[I") ∈ hv_ws := wm (wc_2 (List.mem_of_getElem? (i := 48) rfl)) rfl
theorem q_2_53 : (Jvm.Cond.code ({ cls := "BulletinOffice$Sealer", name := "seal", desc := "([III[II)V" } : Jvm.MethodName) prog_6_method_5_code (7 : Nat) (Option.none : Option Jvm.ClassFile.FieldType)) ∈ hv_ws := wm (wc_2 (List.mem_of_getElem? (i := 53) rfl)) rfl
theorem q_2_50 : (Jvm.Cond.methodLink "BulletinOffice$KeyChain" (25 : Nat) ({ cls := "BulletinOffice$Sealer", name := "seal", desc := "([III[II)V" } : Jvm.MethodName)) ∈ hv_ws := wm (wc_2 (List.mem_of_getElem? (i := 50) rfl)) rfl
theorem cs_Kc_25 : hv_cs "BulletinOffice$KeyChain" 25 y_Sl_seal b_Sl_seal 7 none 5 := ⟨q_2_53, q_1_4, ⟨by decide, by decide⟩, by decide +kernel, Or.inl q_2_50⟩
theorem q_2_51 : (Jvm.Cond.instanceMethod ({ cls := "BulletinOffice$Sealer", name := "seal", desc := "([III[II)V" } : Jvm.MethodName)) ∈ hv_ws := wm (wc_2 (List.mem_of_getElem? (i := 51) rfl)) rfl
theorem q_2_52 : (Jvm.Cond.selects "BulletinOffice$Sealer" ({ cls := "BulletinOffice$Sealer", name := "seal", desc := "([III[II)V" } : Jvm.MethodName) ({ cls := "BulletinOffice$Sealer", name := "seal", desc := "([III[II)V" } : Jvm.MethodName)) ∈ hv_ws := wm (wc_2 (List.mem_of_getElem? (i := 52) rfl)) rfl
theorem q_1_64 : (Jvm.Cond.fieldLink "BulletinOffice$KeyChain" (31 : Nat) "BulletinOffice$Sealer" "result" "[I") ∈ hv_ws := wm (wc_1 (List.mem_of_getElem? (i := 64) rfl)) rfl
theorem fa_Kc_31 : hv_fa "BulletinOffice$KeyChain" 31 1 0 := ⟨R1, T1, 5, "BulletinOffice$Sealer", rfl, hin1, by decide, Or.inl q_1_64, Or.inl rfl⟩
theorem q_2_90 : (Jvm.Cond.methodLink "BulletinOffice$KeyChain" (34 : Nat) ({ cls := "java/lang/System", name := "arraycopy", desc := "(Ljava/lang/Object;ILjava/lang/Object;II)V" } : Jvm.MethodName)) ∈ hv_ws := wm (wc_2 (List.mem_of_getElem? (i := 90) rfl)) rfl
theorem cs_Kc_40 : hv_cs "BulletinOffice$KeyChain" 40 y_Of_byteOf b_Of_byteOf 2 (some (.int)) 2 := ⟨q_2_148, q_1_1, ⟨by decide, by decide⟩, by decide +kernel, Or.inr ⟨"BulletinOffice", List.mem_of_getElem? (i := 5) rfl⟩⟩
theorem q_2_235 : (Jvm.Cond.code ({ cls := "BulletinOffice$KeyChain", name := "byteAt", desc := "(II)I" } : Jvm.MethodName) prog_3_method_6_code (3 : Nat) (Option.some Jvm.ClassFile.FieldType.int)) ∈ hv_ws := wm (wc_2 (List.mem_of_getElem? (i := 235) rfl)) rfl
theorem q_1_5 : (Jvm.Cond.initialized "BulletinOffice$KeyChain") ∈ hv_ws := wm (wc_1 (List.mem_of_getElem? (i := 5) rfl)) rfl
theorem q_2_232 : (Jvm.Cond.methodLink "BulletinOffice$KeyChain" (44 : Nat) ({ cls := "BulletinOffice$KeyChain", name := "byteAt", desc := "(II)I" } : Jvm.MethodName)) ∈ hv_ws := wm (wc_2 (List.mem_of_getElem? (i := 232) rfl)) rfl
theorem cs_Kc_44 : hv_cs "BulletinOffice$KeyChain" 44 y_Kc_byteAt b_Kc_byteAt 3 (some (.int)) 2 := ⟨q_2_235, q_1_5, ⟨by decide, by decide⟩, by decide +kernel, Or.inl q_2_232⟩
theorem q_2_233 : (Jvm.Cond.instanceMethod ({ cls := "BulletinOffice$KeyChain", name := "byteAt", desc := "(II)I" } : Jvm.MethodName)) ∈ hv_ws := wm (wc_2 (List.mem_of_getElem? (i := 233) rfl)) rfl
theorem q_2_234 : (Jvm.Cond.selects "BulletinOffice$KeyChain" ({ cls := "BulletinOffice$KeyChain", name := "byteAt", desc := "(II)I" } : Jvm.MethodName) ({ cls := "BulletinOffice$KeyChain", name := "byteAt", desc := "(II)I" } : Jvm.MethodName)) ∈ hv_ws := wm (wc_2 (List.mem_of_getElem? (i := 234) rfl)) rfl
theorem cs_Kc_52 : hv_cs "BulletinOffice$KeyChain" 52 y_Of_wordAt b_Of_wordAt 2 (some (.int)) 2 := ⟨q_2_200, q_1_1, ⟨by decide, by decide⟩, by decide +kernel, Or.inr ⟨"BulletinOffice", List.mem_of_getElem? (i := 8) rfl⟩⟩
theorem q_3_178 : (Jvm.Cond.code ({ cls := "BulletinOffice$KeyChain", name := "readKey", desc := "(I[II)V" } : Jvm.MethodName) prog_3_method_11_code (5 : Nat) (Option.none : Option Jvm.ClassFile.FieldType)) ∈ hv_ws := wm (wc_3 (List.mem_of_getElem? (i := 178) rfl)) rfl
theorem q_3_224 : (Jvm.Cond.methodLink "BulletinOffice$KeyChain" (48 : Nat) ({ cls := "BulletinOffice$KeyChain", name := "readKey", desc := "(I[II)V" } : Jvm.MethodName)) ∈ hv_ws := wm (wc_3 (List.mem_of_getElem? (i := 224) rfl)) rfl
theorem cs_Kc_48 : hv_cs "BulletinOffice$KeyChain" 48 y_Kc_readKey b_Kc_readKey 5 none 3 := ⟨q_3_178, q_1_5, ⟨by decide, by decide⟩, by decide +kernel, Or.inl q_3_224⟩
theorem q_3_176 : (Jvm.Cond.instanceMethod ({ cls := "BulletinOffice$KeyChain", name := "readKey", desc := "(I[II)V" } : Jvm.MethodName)) ∈ hv_ws := wm (wc_3 (List.mem_of_getElem? (i := 176) rfl)) rfl
theorem q_3_177 : (Jvm.Cond.selects "BulletinOffice$KeyChain" ({ cls := "BulletinOffice$KeyChain", name := "readKey", desc := "(I[II)V" } : Jvm.MethodName) ({ cls := "BulletinOffice$KeyChain", name := "readKey", desc := "(I[II)V" } : Jvm.MethodName)) ∈ hv_ws := wm (wc_3 (List.mem_of_getElem? (i := 177) rfl)) rfl
theorem q_2_208 : (Jvm.Cond.fieldLink "BulletinOffice$KeyChain" (55 : Nat) "BulletinOffice$KeyChain" "MAC_TEXT" "[I") ∈ hv_ws := wm (wc_2 (List.mem_of_getElem? (i := 208) rfl)) rfl
theorem q_1_68 : (Jvm.Cond.fieldLink "BulletinOffice$KeyChain" (58 : Nat) "BulletinOffice$Sealer" "codeKey" "[I") ∈ hv_ws := wm (wc_1 (List.mem_of_getElem? (i := 68) rfl)) rfl
theorem fa_Kc_58 : hv_fa "BulletinOffice$KeyChain" 58 1 1 := ⟨R1, T1, 5, "BulletinOffice$Sealer", rfl, hin1, by decide, Or.inl q_1_68, Or.inl rfl⟩
theorem q_2_186 : (Jvm.Cond.fieldLink "BulletinOffice$KeyChain" (61 : Nat) "BulletinOffice$Packet" "bytes" "[I") ∈ hv_ws := wm (wc_2 (List.mem_of_getElem? (i := 186) rfl)) rfl
theorem fa_Kc_61 : hv_fa "BulletinOffice$KeyChain" 61 3 0 := ⟨R3, T3, 1, "BulletinOffice$Packet", rfl, hin3, by decide, Or.inl q_2_186, Or.inl rfl⟩
theorem q_2_210 : (Jvm.Cond.methodLink "BulletinOffice$KeyChain" (66 : Nat) ({ cls := "BulletinOffice$Packet", name := "codeAt", desc := "()I" } : Jvm.MethodName)) ∈ hv_ws := wm (wc_2 (List.mem_of_getElem? (i := 210) rfl)) rfl
theorem cs_Kc_66 : hv_cs "BulletinOffice$KeyChain" 66 y_Pk_codeAt b_Pk_codeAt 1 (some (.int)) 0 := ⟨q_2_213, q_1_20, ⟨by decide, by decide⟩, by decide +kernel, Or.inl q_2_210⟩
