theorem q_1_24 : (Jvm.Cond.classLink "BulletinOfficeLaw" (8 : Nat) "BulletinOffice") ∈ hv_ws := wm (wc_1 (List.mem_of_getElem? (i := 24) rfl)) rfl
theorem q_1_25 : (Jvm.Cond.instantiable "BulletinOffice" (7 : Nat)) ∈ hv_ws := wm (wc_1 (List.mem_of_getElem? (i := 25) rfl)) rfl
theorem nw_Lw_8 : hv_nw "BulletinOfficeLaw" 8 5 7 [.null, .null, .null, .null, .int 0, .null, .null] := ⟨R5, T5, ty5, rfl, hin5, tk5, q_1_24, q_1_25, q_1_1, fun j hj => match j, hj with
  | 0, _ => rfl
  | 1, _ => rfl
  | 2, _ => rfl
  | 3, _ => rfl
  | 4, _ => rfl
  | 5, _ => rfl
  | 6, _ => rfl
  | n + 7, h => absurd h (by omega)⟩
theorem q_1_207 : (Jvm.Cond.code ({ cls := "BulletinOfficeLaw", name := "cell", desc := "([II)I" } : Jvm.MethodName) method_2_code (2 : Nat) (Option.some Jvm.ClassFile.FieldType.int)) ∈ hv_ws := wm (wc_1 (List.mem_of_getElem? (i := 207) rfl)) rfl
theorem q_1_0 : (Jvm.Cond.initialized "BulletinOfficeLaw") ∈ hv_ws := wm (wc_1 (List.mem_of_getElem? (i := 0) rfl)) rfl
theorem q_1_205 : (Jvm.Cond.methodLink "BulletinOfficeLaw" (66 : Nat) ({ cls := "BulletinOfficeLaw", name := "cell", desc := "([II)I" } : Jvm.MethodName)) ∈ hv_ws := wm (wc_1 (List.mem_of_getElem? (i := 205) rfl)) rfl
theorem cs_Lw_66 : hv_cs "BulletinOfficeLaw" 66 y_Lw_cell b_Lw_cell 2 (some (.int)) 2 := ⟨q_1_207, q_1_0, ⟨by decide, by decide⟩, by decide +kernel, Or.inl q_1_205⟩
theorem q_1_206 : (Jvm.Cond.static ({ cls := "BulletinOfficeLaw", name := "cell", desc := "([II)I" } : Jvm.MethodName)) ∈ hv_ws := wm (wc_1 (List.mem_of_getElem? (i := 206) rfl)) rfl
theorem q_1_28 : (Jvm.Cond.code ({ cls := "BulletinOffice", name := "<init>", desc := "(III)V" } : Jvm.MethodName) prog_1_method_1_code (5 : Nat) (Option.none : Option Jvm.ClassFile.FieldType)) ∈ hv_ws := wm (wc_1 (List.mem_of_getElem? (i := 28) rfl)) rfl
theorem q_1_26 : (Jvm.Cond.methodLink "BulletinOfficeLaw" (72 : Nat) ({ cls := "BulletinOffice", name := "<init>", desc := "(III)V" } : Jvm.MethodName)) ∈ hv_ws := wm (wc_1 (List.mem_of_getElem? (i := 26) rfl)) rfl
theorem cs_Lw_72 : hv_cs "BulletinOfficeLaw" 72 y_Of_init b_Of_init 5 none 3 := ⟨q_1_28, q_1_1, ⟨by decide, by decide⟩, by decide +kernel, Or.inl q_1_26⟩
theorem q_1_27 : (Jvm.Cond.instanceMethod ({ cls := "BulletinOffice", name := "<init>", desc := "(III)V" } : Jvm.MethodName)) ∈ hv_ws := wm (wc_1 (List.mem_of_getElem? (i := 27) rfl)) rfl
theorem q_4_28 : (Jvm.Cond.classLink "BulletinOfficeLaw" (75 : Nat) "BulletinOfficeModel") ∈ hv_ws := wm (wc_4 (List.mem_of_getElem? (i := 28) rfl)) rfl
theorem q_4_29 : (Jvm.Cond.instantiable "BulletinOfficeModel" (40 : Nat)) ∈ hv_ws := wm (wc_4 (List.mem_of_getElem? (i := 29) rfl)) rfl
theorem nw_Lw_75 : hv_nw "BulletinOfficeLaw" 75 6 40 [.null, .null, .null, .null, .null, .null, .int 0, .null, .int 0, .null, .int 0, .null, .int 0, .int 0, .int 0, .int 0, .int 0, .int 0, .int 0, .null, .null, .null, .null, .null, .null, .null, .null, .null, .null, .null, .null, .null, .null, .null, .null, .null, .null, .null, .null, .null] := ⟨R6, T6, ty6, rfl, hin6, tk6, q_4_28, q_4_29, q_1_10, fun j hj => match j, hj with
  | 0, _ => rfl
  | 1, _ => rfl
  | 2, _ => rfl
  | 3, _ => rfl
  | 4, _ => rfl
  | 5, _ => rfl
  | 6, _ => rfl
  | 7, _ => rfl
  | 8, _ => rfl
  | 9, _ => rfl
  | 10, _ => rfl
  | 11, _ => rfl
  | 12, _ => rfl
  | 13, _ => rfl
  | 14, _ => rfl
  | 15, _ => rfl
  | 16, _ => rfl
  | 17, _ => rfl
  | 18, _ => rfl
  | 19, _ => rfl
  | 20, _ => rfl
  | 21, _ => rfl
  | 22, _ => rfl
  | 23, _ => rfl
  | 24, _ => rfl
  | 25, _ => rfl
  | 26, _ => rfl
  | 27, _ => rfl
  | 28, _ => rfl
  | 29, _ => rfl
  | 30, _ => rfl
  | 31, _ => rfl
  | 32, _ => rfl
  | 33, _ => rfl
  | 34, _ => rfl
  | 35, _ => rfl
  | 36, _ => rfl
  | 37, _ => rfl
  | 38, _ => rfl
  | 39, _ => rfl
  | n + 40, h => absurd h (by omega)⟩
theorem q_4_32 : (Jvm.Cond.code ({ cls := "BulletinOfficeModel", name := "<init>", desc := "(III)V" } : Jvm.MethodName) prog_8_method_1_code (4 : Nat) (Option.none : Option Jvm.ClassFile.FieldType)) ∈ hv_ws := wm (wc_4 (List.mem_of_getElem? (i := 32) rfl)) rfl
theorem q_4_30 : (Jvm.Cond.methodLink "BulletinOfficeLaw" (77 : Nat) ({ cls := "BulletinOfficeModel", name := "<init>", desc := "(III)V" } : Jvm.MethodName)) ∈ hv_ws := wm (wc_4 (List.mem_of_getElem? (i := 30) rfl)) rfl
theorem cs_Lw_77 : hv_cs "BulletinOfficeLaw" 77 y_Md_init b_Md_init 4 none 3 := ⟨q_4_32, q_1_10, ⟨by decide, by decide⟩, by decide +kernel, Or.inl q_4_30⟩
theorem q_4_31 : (Jvm.Cond.instanceMethod ({ cls := "BulletinOfficeModel", name := "<init>", desc := "(III)V" } : Jvm.MethodName)) ∈ hv_ws := wm (wc_4 (List.mem_of_getElem? (i := 31) rfl)) rfl
theorem ar_Lw_chain : Option.map (fun d => d.parameters.length) (parseMethodDescriptor y_Lw_chain.desc) = some 7 := by decide +kernel
theorem q_1_210 : (Jvm.Cond.codeWith ({ cls := "BulletinOfficeLaw", name := "chain", desc := "(LBulletinOffice;IIIII[J)I" } : Jvm.MethodName) method_3_code (8 : Nat) (Option.some Jvm.ClassFile.FieldType.int) [((0 : Nat), (16 : Nat), (19 : Nat), (13 : Nat))]) ∈ hv_ws := wm (wc_1 (List.mem_of_getElem? (i := 210) rfl)) rfl
theorem q_1_209 : (Jvm.Cond.static ({ cls := "BulletinOfficeLaw", name := "chain", desc := "(LBulletinOffice;IIIII[J)I" } : Jvm.MethodName)) ∈ hv_ws := wm (wc_1 (List.mem_of_getElem? (i := 209) rfl)) rfl
theorem q_1_208 : (Jvm.Cond.methodLink "BulletinOfficeLaw" (78 : Nat) ({ cls := "BulletinOfficeLaw", name := "chain", desc := "(LBulletinOffice;IIIII[J)I" } : Jvm.MethodName)) ∈ hv_ws := wm (wc_1 (List.mem_of_getElem? (i := 208) rfl)) rfl
theorem q_5_0 : (Jvm.Cond.code ({ cls := "BulletinOfficeModel", name := "chain", desc := "(IIIII)I" } : Jvm.MethodName) prog_8_method_16_code (8 : Nat) (Option.some Jvm.ClassFile.FieldType.int)) ∈ hv_ws := wm (wc_5 (List.mem_of_getElem? (i := 0) rfl)) rfl
theorem q_4_237 : (Jvm.Cond.methodLink "BulletinOfficeLaw" (81 : Nat) ({ cls := "BulletinOfficeModel", name := "chain", desc := "(IIIII)I" } : Jvm.MethodName)) ∈ hv_ws := wm (wc_4 (List.mem_of_getElem? (i := 237) rfl)) rfl
theorem cs_Lw_81 : hv_cs "BulletinOfficeLaw" 81 y_Md_chain b_Md_chain 8 (some (.int)) 5 := ⟨q_5_0, q_1_10, ⟨by decide, by decide⟩, by decide +kernel, Or.inl q_4_237⟩
theorem q_4_238 : (Jvm.Cond.instanceMethod ({ cls := "BulletinOfficeModel", name := "chain", desc := "(IIIII)I" } : Jvm.MethodName)) ∈ hv_ws := wm (wc_4 (List.mem_of_getElem? (i := 238) rfl)) rfl
theorem q_4_239 : (Jvm.Cond.selects "BulletinOfficeModel" ({ cls := "BulletinOfficeModel", name := "chain", desc := "(IIIII)I" } : Jvm.MethodName) ({ cls := "BulletinOfficeModel", name := "chain", desc := "(IIIII)I" } : Jvm.MethodName)) ∈ hv_ws := wm (wc_4 (List.mem_of_getElem? (i := 239) rfl)) rfl
theorem q_4_236 : (Jvm.Cond.code ({ cls := "BulletinOfficeModel", name := "thrown", desc := "()I" } : Jvm.MethodName) prog_8_method_2_code (1 : Nat) (Option.some Jvm.ClassFile.FieldType.int)) ∈ hv_ws := wm (wc_4 (List.mem_of_getElem? (i := 236) rfl)) rfl
theorem q_4_233 : (Jvm.Cond.methodLink "BulletinOfficeLaw" (82 : Nat) ({ cls := "BulletinOfficeModel", name := "thrown", desc := "()I" } : Jvm.MethodName)) ∈ hv_ws := wm (wc_4 (List.mem_of_getElem? (i := 233) rfl)) rfl
theorem cs_Lw_82 : hv_cs "BulletinOfficeLaw" 82 y_Md_thrown b_Md_thrown 1 (some (.int)) 0 := ⟨q_4_236, q_1_10, ⟨by decide, by decide⟩, by decide +kernel, Or.inl q_4_233⟩
theorem q_4_234 : (Jvm.Cond.instanceMethod ({ cls := "BulletinOfficeModel", name := "thrown", desc := "()I" } : Jvm.MethodName)) ∈ hv_ws := wm (wc_4 (List.mem_of_getElem? (i := 234) rfl)) rfl
theorem q_4_235 : (Jvm.Cond.selects "BulletinOfficeModel" ({ cls := "BulletinOfficeModel", name := "thrown", desc := "()I" } : Jvm.MethodName) ({ cls := "BulletinOfficeModel", name := "thrown", desc := "()I" } : Jvm.MethodName)) ∈ hv_ws := wm (wc_4 (List.mem_of_getElem? (i := 235) rfl)) rfl
theorem ar_Lw_tick : Option.map (fun d => d.parameters.length) (parseMethodDescriptor y_Lw_tick.desc) = some 3 := by decide +kernel
theorem q_2_93 : (Jvm.Cond.codeWith ({ cls := "BulletinOfficeLaw", name := "tick", desc := "(LBulletinOffice;I[J)I" } : Jvm.MethodName) method_4_code (4 : Nat) (Option.some Jvm.ClassFile.FieldType.int) [((0 : Nat), (9 : Nat), (12 : Nat), (19 : Nat)), ((0 : Nat), (9 : Nat), (15 : Nat), (13 : Nat))]) ∈ hv_ws := wm (wc_2 (List.mem_of_getElem? (i := 93) rfl)) rfl
theorem q_2_92 : (Jvm.Cond.static ({ cls := "BulletinOfficeLaw", name := "tick", desc := "(LBulletinOffice;I[J)I" } : Jvm.MethodName)) ∈ hv_ws := wm (wc_2 (List.mem_of_getElem? (i := 92) rfl)) rfl
theorem q_2_91 : (Jvm.Cond.methodLink "BulletinOfficeLaw" (85 : Nat) ({ cls := "BulletinOfficeLaw", name := "tick", desc := "(LBulletinOffice;I[J)I" } : Jvm.MethodName)) ∈ hv_ws := wm (wc_2 (List.mem_of_getElem? (i := 91) rfl)) rfl
theorem q_5_30 : (Jvm.Cond.code ({ cls := "BulletinOfficeModel", name := "tick", desc := "(I)I" } : Jvm.MethodName) prog_8_method_17_code (2 : Nat) (Option.some Jvm.ClassFile.FieldType.int)) ∈ hv_ws := wm (wc_5 (List.mem_of_getElem? (i := 30) rfl)) rfl
theorem q_5_27 : (Jvm.Cond.methodLink "BulletinOfficeLaw" (88 : Nat) ({ cls := "BulletinOfficeModel", name := "tick", desc := "(I)I" } : Jvm.MethodName)) ∈ hv_ws := wm (wc_5 (List.mem_of_getElem? (i := 27) rfl)) rfl
theorem cs_Lw_88 : hv_cs "BulletinOfficeLaw" 88 y_Md_tick b_Md_tick 2 (some (.int)) 1 := ⟨q_5_30, q_1_10, ⟨by decide, by decide⟩, by decide +kernel, Or.inl q_5_27⟩
theorem q_5_28 : (Jvm.Cond.instanceMethod ({ cls := "BulletinOfficeModel", name := "tick", desc := "(I)I" } : Jvm.MethodName)) ∈ hv_ws := wm (wc_5 (List.mem_of_getElem? (i := 28) rfl)) rfl
theorem q_5_29 : (Jvm.Cond.selects "BulletinOfficeModel" ({ cls := "BulletinOfficeModel", name := "tick", desc := "(I)I" } : Jvm.MethodName) ({ cls := "BulletinOfficeModel", name := "tick", desc := "(I)I" } : Jvm.MethodName)) ∈ hv_ws := wm (wc_5 (List.mem_of_getElem? (i := 29) rfl)) rfl
theorem ar_Lw_load : Option.map (fun d => d.parameters.length) (parseMethodDescriptor y_Lw_load.desc) = some 4 := by decide +kernel
theorem q_2_117 : (Jvm.Cond.codeWith ({ cls := "BulletinOfficeLaw", name := "load", desc := "(LBulletinOffice;II[J)I" } : Jvm.MethodName) method_5_code (5 : Nat) (Option.some Jvm.ClassFile.FieldType.int) [((0 : Nat), (10 : Nat), (13 : Nat), (25 : Nat))]) ∈ hv_ws := wm (wc_2 (List.mem_of_getElem? (i := 117) rfl)) rfl
theorem q_2_116 : (Jvm.Cond.static ({ cls := "BulletinOfficeLaw", name := "load", desc := "(LBulletinOffice;II[J)I" } : Jvm.MethodName)) ∈ hv_ws := wm (wc_2 (List.mem_of_getElem? (i := 116) rfl)) rfl
theorem q_2_115 : (Jvm.Cond.methodLink "BulletinOfficeLaw" (89 : Nat) ({ cls := "BulletinOfficeLaw", name := "load", desc := "(LBulletinOffice;II[J)I" } : Jvm.MethodName)) ∈ hv_ws := wm (wc_2 (List.mem_of_getElem? (i := 115) rfl)) rfl
theorem q_5_38 : (Jvm.Cond.code ({ cls := "BulletinOfficeModel", name := "load", desc := "(II)I" } : Jvm.MethodName) prog_8_method_18_code (4 : Nat) (Option.some Jvm.ClassFile.FieldType.int)) ∈ hv_ws := wm (wc_5 (List.mem_of_getElem? (i := 38) rfl)) rfl
theorem q_5_35 : (Jvm.Cond.methodLink "BulletinOfficeLaw" (92 : Nat) ({ cls := "BulletinOfficeModel", name := "load", desc := "(II)I" } : Jvm.MethodName)) ∈ hv_ws := wm (wc_5 (List.mem_of_getElem? (i := 35) rfl)) rfl
theorem cs_Lw_92 : hv_cs "BulletinOfficeLaw" 92 y_Md_load b_Md_load 4 (some (.int)) 2 := ⟨q_5_38, q_1_10, ⟨by decide, by decide⟩, by decide +kernel, Or.inl q_5_35⟩
theorem q_5_36 : (Jvm.Cond.instanceMethod ({ cls := "BulletinOfficeModel", name := "load", desc := "(II)I" } : Jvm.MethodName)) ∈ hv_ws := wm (wc_5 (List.mem_of_getElem? (i := 36) rfl)) rfl
theorem q_5_37 : (Jvm.Cond.selects "BulletinOfficeModel" ({ cls := "BulletinOfficeModel", name := "load", desc := "(II)I" } : Jvm.MethodName) ({ cls := "BulletinOfficeModel", name := "load", desc := "(II)I" } : Jvm.MethodName)) ∈ hv_ws := wm (wc_5 (List.mem_of_getElem? (i := 37) rfl)) rfl
theorem ar_Lw_digest : Option.map (fun d => d.parameters.length) (parseMethodDescriptor y_Lw_digest.desc) = some 4 := by decide +kernel
theorem q_2_140 : (Jvm.Cond.codeWith ({ cls := "BulletinOfficeLaw", name := "digest", desc := "(LBulletinOffice;II[J)I" } : Jvm.MethodName) method_6_code (5 : Nat) (Option.some Jvm.ClassFile.FieldType.int) [((0 : Nat), (10 : Nat), (13 : Nat), (19 : Nat)), ((0 : Nat), (10 : Nat), (17 : Nat), (25 : Nat))]) ∈ hv_ws := wm (wc_2 (List.mem_of_getElem? (i := 140) rfl)) rfl
theorem q_2_139 : (Jvm.Cond.static ({ cls := "BulletinOfficeLaw", name := "digest", desc := "(LBulletinOffice;II[J)I" } : Jvm.MethodName)) ∈ hv_ws := wm (wc_2 (List.mem_of_getElem? (i := 139) rfl)) rfl
theorem q_2_138 : (Jvm.Cond.methodLink "BulletinOfficeLaw" (93 : Nat) ({ cls := "BulletinOfficeLaw", name := "digest", desc := "(LBulletinOffice;II[J)I" } : Jvm.MethodName)) ∈ hv_ws := wm (wc_2 (List.mem_of_getElem? (i := 138) rfl)) rfl
theorem q_5_42 : (Jvm.Cond.code ({ cls := "BulletinOfficeModel", name := "digest", desc := "(II)I" } : Jvm.MethodName) prog_8_method_19_code (4 : Nat) (Option.some Jvm.ClassFile.FieldType.int)) ∈ hv_ws := wm (wc_5 (List.mem_of_getElem? (i := 42) rfl)) rfl
theorem q_5_39 : (Jvm.Cond.methodLink "BulletinOfficeLaw" (95 : Nat) ({ cls := "BulletinOfficeModel", name := "digest", desc := "(II)I" } : Jvm.MethodName)) ∈ hv_ws := wm (wc_5 (List.mem_of_getElem? (i := 39) rfl)) rfl
theorem cs_Lw_95 : hv_cs "BulletinOfficeLaw" 95 y_Md_digest b_Md_digest 4 (some (.int)) 2 := ⟨q_5_42, q_1_10, ⟨by decide, by decide⟩, by decide +kernel, Or.inl q_5_39⟩
theorem q_5_40 : (Jvm.Cond.instanceMethod ({ cls := "BulletinOfficeModel", name := "digest", desc := "(II)I" } : Jvm.MethodName)) ∈ hv_ws := wm (wc_5 (List.mem_of_getElem? (i := 40) rfl)) rfl
theorem q_5_41 : (Jvm.Cond.selects "BulletinOfficeModel" ({ cls := "BulletinOfficeModel", name := "digest", desc := "(II)I" } : Jvm.MethodName) ({ cls := "BulletinOfficeModel", name := "digest", desc := "(II)I" } : Jvm.MethodName)) ∈ hv_ws := wm (wc_5 (List.mem_of_getElem? (i := 41) rfl)) rfl
theorem ar_Lw_send : Option.map (fun d => d.parameters.length) (parseMethodDescriptor y_Lw_send.desc) = some 3 := by decide +kernel
theorem q_2_153 : (Jvm.Cond.codeWith ({ cls := "BulletinOfficeLaw", name := "send", desc := "(LBulletinOffice;I[J)I" } : Jvm.MethodName) method_7_code (4 : Nat) (Option.some Jvm.ClassFile.FieldType.int) [((0 : Nat), (9 : Nat), (12 : Nat), (19 : Nat)), ((0 : Nat), (9 : Nat), (15 : Nat), (13 : Nat)), ((0 : Nat), (9 : Nat), (18 : Nat), (33 : Nat))]) ∈ hv_ws := wm (wc_2 (List.mem_of_getElem? (i := 153) rfl)) rfl
theorem q_2_152 : (Jvm.Cond.static ({ cls := "BulletinOfficeLaw", name := "send", desc := "(LBulletinOffice;I[J)I" } : Jvm.MethodName)) ∈ hv_ws := wm (wc_2 (List.mem_of_getElem? (i := 152) rfl)) rfl
theorem q_2_151 : (Jvm.Cond.methodLink "BulletinOfficeLaw" (96 : Nat) ({ cls := "BulletinOfficeLaw", name := "send", desc := "(LBulletinOffice;I[J)I" } : Jvm.MethodName)) ∈ hv_ws := wm (wc_2 (List.mem_of_getElem? (i := 151) rfl)) rfl
theorem q_5_46 : (Jvm.Cond.code ({ cls := "BulletinOfficeModel", name := "send", desc := "(I)I" } : Jvm.MethodName) prog_8_method_21_code (3 : Nat) (Option.some Jvm.ClassFile.FieldType.int)) ∈ hv_ws := wm (wc_5 (List.mem_of_getElem? (i := 46) rfl)) rfl
theorem q_5_43 : (Jvm.Cond.methodLink "BulletinOfficeLaw" (98 : Nat) ({ cls := "BulletinOfficeModel", name := "send", desc := "(I)I" } : Jvm.MethodName)) ∈ hv_ws := wm (wc_5 (List.mem_of_getElem? (i := 43) rfl)) rfl
theorem cs_Lw_98 : hv_cs "BulletinOfficeLaw" 98 y_Md_send b_Md_send 3 (some (.int)) 1 := ⟨q_5_46, q_1_10, ⟨by decide, by decide⟩, by decide +kernel, Or.inl q_5_43⟩
theorem q_5_44 : (Jvm.Cond.instanceMethod ({ cls := "BulletinOfficeModel", name := "send", desc := "(I)I" } : Jvm.MethodName)) ∈ hv_ws := wm (wc_5 (List.mem_of_getElem? (i := 44) rfl)) rfl
theorem q_5_45 : (Jvm.Cond.selects "BulletinOfficeModel" ({ cls := "BulletinOfficeModel", name := "send", desc := "(I)I" } : Jvm.MethodName) ({ cls := "BulletinOfficeModel", name := "send", desc := "(I)I" } : Jvm.MethodName)) ∈ hv_ws := wm (wc_5 (List.mem_of_getElem? (i := 45) rfl)) rfl
theorem ar_Lw_root : Option.map (fun d => d.parameters.length) (parseMethodDescriptor y_Lw_root.desc) = some 2 := by decide +kernel
theorem q_3_56 : (Jvm.Cond.codeWith ({ cls := "BulletinOfficeLaw", name := "root", desc := "(LBulletinOffice;[J)I" } : Jvm.MethodName) method_8_code (3 : Nat) (Option.some Jvm.ClassFile.FieldType.int) [((0 : Nat), (8 : Nat), (11 : Nat), (13 : Nat)), ((0 : Nat), (8 : Nat), (14 : Nat), (33 : Nat))]) ∈ hv_ws := wm (wc_3 (List.mem_of_getElem? (i := 56) rfl)) rfl
theorem q_3_55 : (Jvm.Cond.static ({ cls := "BulletinOfficeLaw", name := "root", desc := "(LBulletinOffice;[J)I" } : Jvm.MethodName)) ∈ hv_ws := wm (wc_3 (List.mem_of_getElem? (i := 55) rfl)) rfl
theorem q_3_54 : (Jvm.Cond.methodLink "BulletinOfficeLaw" (99 : Nat) ({ cls := "BulletinOfficeLaw", name := "root", desc := "(LBulletinOffice;[J)I" } : Jvm.MethodName)) ∈ hv_ws := wm (wc_3 (List.mem_of_getElem? (i := 54) rfl)) rfl
theorem q_5_69 : (Jvm.Cond.code ({ cls := "BulletinOfficeModel", name := "root", desc := "()I" } : Jvm.MethodName) prog_8_method_22_code (3 : Nat) (Option.some Jvm.ClassFile.FieldType.int)) ∈ hv_ws := wm (wc_5 (List.mem_of_getElem? (i := 69) rfl)) rfl
theorem q_5_66 : (Jvm.Cond.methodLink "BulletinOfficeLaw" (102 : Nat) ({ cls := "BulletinOfficeModel", name := "root", desc := "()I" } : Jvm.MethodName)) ∈ hv_ws := wm (wc_5 (List.mem_of_getElem? (i := 66) rfl)) rfl
theorem cs_Lw_102 : hv_cs "BulletinOfficeLaw" 102 y_Md_root b_Md_root 3 (some (.int)) 0 := ⟨q_5_69, q_1_10, ⟨by decide, by decide⟩, by decide +kernel, Or.inl q_5_66⟩
theorem q_5_67 : (Jvm.Cond.instanceMethod ({ cls := "BulletinOfficeModel", name := "root", desc := "()I" } : Jvm.MethodName)) ∈ hv_ws := wm (wc_5 (List.mem_of_getElem? (i := 67) rfl)) rfl
theorem q_5_68 : (Jvm.Cond.selects "BulletinOfficeModel" ({ cls := "BulletinOfficeModel", name := "root", desc := "()I" } : Jvm.MethodName) ({ cls := "BulletinOfficeModel", name := "root", desc := "()I" } : Jvm.MethodName)) ∈ hv_ws := wm (wc_5 (List.mem_of_getElem? (i := 68) rfl)) rfl
theorem ar_Lw_packet : Option.map (fun d => d.parameters.length) (parseMethodDescriptor y_Lw_packet.desc) = some 4 := by decide +kernel
theorem q_3_63 : (Jvm.Cond.codeWith ({ cls := "BulletinOfficeLaw", name := "packet", desc := "(LBulletinOffice;II[J)I" } : Jvm.MethodName) method_9_code (5 : Nat) (Option.some Jvm.ClassFile.FieldType.int) [((0 : Nat), (10 : Nat), (13 : Nat), (25 : Nat))]) ∈ hv_ws := wm (wc_3 (List.mem_of_getElem? (i := 63) rfl)) rfl
theorem q_3_62 : (Jvm.Cond.static ({ cls := "BulletinOfficeLaw", name := "packet", desc := "(LBulletinOffice;II[J)I" } : Jvm.MethodName)) ∈ hv_ws := wm (wc_3 (List.mem_of_getElem? (i := 62) rfl)) rfl
theorem q_3_61 : (Jvm.Cond.methodLink "BulletinOfficeLaw" (103 : Nat) ({ cls := "BulletinOfficeLaw", name := "packet", desc := "(LBulletinOffice;II[J)I" } : Jvm.MethodName)) ∈ hv_ws := wm (wc_3 (List.mem_of_getElem? (i := 61) rfl)) rfl
theorem q_5_73 : (Jvm.Cond.code ({ cls := "BulletinOfficeModel", name := "packet", desc := "(II)I" } : Jvm.MethodName) prog_8_method_23_code (3 : Nat) (Option.some Jvm.ClassFile.FieldType.int)) ∈ hv_ws := wm (wc_5 (List.mem_of_getElem? (i := 73) rfl)) rfl
theorem q_5_70 : (Jvm.Cond.methodLink "BulletinOfficeLaw" (105 : Nat) ({ cls := "BulletinOfficeModel", name := "packet", desc := "(II)I" } : Jvm.MethodName)) ∈ hv_ws := wm (wc_5 (List.mem_of_getElem? (i := 70) rfl)) rfl
theorem cs_Lw_105 : hv_cs "BulletinOfficeLaw" 105 y_Md_packet b_Md_packet 3 (some (.int)) 2 := ⟨q_5_73, q_1_10, ⟨by decide, by decide⟩, by decide +kernel, Or.inl q_5_70⟩
theorem q_5_71 : (Jvm.Cond.instanceMethod ({ cls := "BulletinOfficeModel", name := "packet", desc := "(II)I" } : Jvm.MethodName)) ∈ hv_ws := wm (wc_5 (List.mem_of_getElem? (i := 71) rfl)) rfl
theorem q_5_72 : (Jvm.Cond.selects "BulletinOfficeModel" ({ cls := "BulletinOfficeModel", name := "packet", desc := "(II)I" } : Jvm.MethodName) ({ cls := "BulletinOfficeModel", name := "packet", desc := "(II)I" } : Jvm.MethodName)) ∈ hv_ws := wm (wc_5 (List.mem_of_getElem? (i := 72) rfl)) rfl
theorem ar_Lw_key : Option.map (fun d => d.parameters.length) (parseMethodDescriptor y_Lw_key.desc) = some 4 := by decide +kernel
theorem q_3_88 : (Jvm.Cond.codeWith ({ cls := "BulletinOfficeLaw", name := "key", desc := "(LBulletinOffice;II[J)I" } : Jvm.MethodName) method_10_code (5 : Nat) (Option.some Jvm.ClassFile.FieldType.int) [((0 : Nat), (10 : Nat), (13 : Nat), (25 : Nat)), ((0 : Nat), (10 : Nat), (17 : Nat), (13 : Nat))]) ∈ hv_ws := wm (wc_3 (List.mem_of_getElem? (i := 88) rfl)) rfl
theorem q_3_87 : (Jvm.Cond.static ({ cls := "BulletinOfficeLaw", name := "key", desc := "(LBulletinOffice;II[J)I" } : Jvm.MethodName)) ∈ hv_ws := wm (wc_3 (List.mem_of_getElem? (i := 87) rfl)) rfl
theorem q_3_86 : (Jvm.Cond.methodLink "BulletinOfficeLaw" (106 : Nat) ({ cls := "BulletinOfficeLaw", name := "key", desc := "(LBulletinOffice;II[J)I" } : Jvm.MethodName)) ∈ hv_ws := wm (wc_3 (List.mem_of_getElem? (i := 86) rfl)) rfl
theorem q_5_77 : (Jvm.Cond.code ({ cls := "BulletinOfficeModel", name := "key", desc := "(II)I" } : Jvm.MethodName) prog_8_method_25_code (4 : Nat) (Option.some Jvm.ClassFile.FieldType.int)) ∈ hv_ws := wm (wc_5 (List.mem_of_getElem? (i := 77) rfl)) rfl
theorem q_5_74 : (Jvm.Cond.methodLink "BulletinOfficeLaw" (108 : Nat) ({ cls := "BulletinOfficeModel", name := "key", desc := "(II)I" } : Jvm.MethodName)) ∈ hv_ws := wm (wc_5 (List.mem_of_getElem? (i := 74) rfl)) rfl
theorem cs_Lw_108 : hv_cs "BulletinOfficeLaw" 108 y_Md_key b_Md_key 4 (some (.int)) 2 := ⟨q_5_77, q_1_10, ⟨by decide, by decide⟩, by decide +kernel, Or.inl q_5_74⟩
theorem q_5_75 : (Jvm.Cond.instanceMethod ({ cls := "BulletinOfficeModel", name := "key", desc := "(II)I" } : Jvm.MethodName)) ∈ hv_ws := wm (wc_5 (List.mem_of_getElem? (i := 75) rfl)) rfl
theorem q_5_76 : (Jvm.Cond.selects "BulletinOfficeModel" ({ cls := "BulletinOfficeModel", name := "key", desc := "(II)I" } : Jvm.MethodName) ({ cls := "BulletinOfficeModel", name := "key", desc := "(II)I" } : Jvm.MethodName)) ∈ hv_ws := wm (wc_5 (List.mem_of_getElem? (i := 76) rfl)) rfl
theorem ar_Lw_join : Option.map (fun d => d.parameters.length) (parseMethodDescriptor y_Lw_join.desc) = some 3 := by decide +kernel
theorem q_3_96 : (Jvm.Cond.codeWith ({ cls := "BulletinOfficeLaw", name := "join", desc := "(LBulletinOffice;II)I" } : Jvm.MethodName) method_11_code (4 : Nat) (Option.some Jvm.ClassFile.FieldType.int) [((0 : Nat), (6 : Nat), (9 : Nat), (25 : Nat)), ((0 : Nat), (6 : Nat), (12 : Nat), (13 : Nat))]) ∈ hv_ws := wm (wc_3 (List.mem_of_getElem? (i := 96) rfl)) rfl
theorem q_3_95 : (Jvm.Cond.static ({ cls := "BulletinOfficeLaw", name := "join", desc := "(LBulletinOffice;II)I" } : Jvm.MethodName)) ∈ hv_ws := wm (wc_3 (List.mem_of_getElem? (i := 95) rfl)) rfl
theorem q_3_94 : (Jvm.Cond.methodLink "BulletinOfficeLaw" (109 : Nat) ({ cls := "BulletinOfficeLaw", name := "join", desc := "(LBulletinOffice;II)I" } : Jvm.MethodName)) ∈ hv_ws := wm (wc_3 (List.mem_of_getElem? (i := 94) rfl)) rfl
theorem q_5_85 : (Jvm.Cond.code ({ cls := "BulletinOfficeModel", name := "join", desc := "(II)V" } : Jvm.MethodName) prog_8_method_26_code (5 : Nat) (Option.none : Option Jvm.ClassFile.FieldType)) ∈ hv_ws := wm (wc_5 (List.mem_of_getElem? (i := 85) rfl)) rfl
theorem q_5_82 : (Jvm.Cond.methodLink "BulletinOfficeLaw" (112 : Nat) ({ cls := "BulletinOfficeModel", name := "join", desc := "(II)V" } : Jvm.MethodName)) ∈ hv_ws := wm (wc_5 (List.mem_of_getElem? (i := 82) rfl)) rfl
theorem cs_Lw_112 : hv_cs "BulletinOfficeLaw" 112 y_Md_join b_Md_join 5 none 2 := ⟨q_5_85, q_1_10, ⟨by decide, by decide⟩, by decide +kernel, Or.inl q_5_82⟩
theorem q_5_83 : (Jvm.Cond.instanceMethod ({ cls := "BulletinOfficeModel", name := "join", desc := "(II)V" } : Jvm.MethodName)) ∈ hv_ws := wm (wc_5 (List.mem_of_getElem? (i := 83) rfl)) rfl
theorem q_5_84 : (Jvm.Cond.selects "BulletinOfficeModel" ({ cls := "BulletinOfficeModel", name := "join", desc := "(II)V" } : Jvm.MethodName) ({ cls := "BulletinOfficeModel", name := "join", desc := "(II)V" } : Jvm.MethodName)) ∈ hv_ws := wm (wc_5 (List.mem_of_getElem? (i := 84) rfl)) rfl
theorem ar_Lw_drift : Option.map (fun d => d.parameters.length) (parseMethodDescriptor y_Lw_drift.desc) = some 4 := by decide +kernel
theorem q_3_124 : (Jvm.Cond.codeWith ({ cls := "BulletinOfficeLaw", name := "drift", desc := "(LBulletinOffice;II[J)I" } : Jvm.MethodName) method_12_code (5 : Nat) (Option.some Jvm.ClassFile.FieldType.int) [((0 : Nat), (10 : Nat), (13 : Nat), (25 : Nat)), ((0 : Nat), (10 : Nat), (17 : Nat), (19 : Nat))]) ∈ hv_ws := wm (wc_3 (List.mem_of_getElem? (i := 124) rfl)) rfl
theorem q_3_123 : (Jvm.Cond.static ({ cls := "BulletinOfficeLaw", name := "drift", desc := "(LBulletinOffice;II[J)I" } : Jvm.MethodName)) ∈ hv_ws := wm (wc_3 (List.mem_of_getElem? (i := 123) rfl)) rfl
theorem q_3_122 : (Jvm.Cond.methodLink "BulletinOfficeLaw" (113 : Nat) ({ cls := "BulletinOfficeLaw", name := "drift", desc := "(LBulletinOffice;II[J)I" } : Jvm.MethodName)) ∈ hv_ws := wm (wc_3 (List.mem_of_getElem? (i := 122) rfl)) rfl
theorem q_5_89 : (Jvm.Cond.code ({ cls := "BulletinOfficeModel", name := "drift", desc := "(II)I" } : Jvm.MethodName) prog_8_method_27_code (4 : Nat) (Option.some Jvm.ClassFile.FieldType.int)) ∈ hv_ws := wm (wc_5 (List.mem_of_getElem? (i := 89) rfl)) rfl
theorem q_5_86 : (Jvm.Cond.methodLink "BulletinOfficeLaw" (115 : Nat) ({ cls := "BulletinOfficeModel", name := "drift", desc := "(II)I" } : Jvm.MethodName)) ∈ hv_ws := wm (wc_5 (List.mem_of_getElem? (i := 86) rfl)) rfl
theorem cs_Lw_115 : hv_cs "BulletinOfficeLaw" 115 y_Md_drift b_Md_drift 4 (some (.int)) 2 := ⟨q_5_89, q_1_10, ⟨by decide, by decide⟩, by decide +kernel, Or.inl q_5_86⟩
theorem q_5_87 : (Jvm.Cond.instanceMethod ({ cls := "BulletinOfficeModel", name := "drift", desc := "(II)I" } : Jvm.MethodName)) ∈ hv_ws := wm (wc_5 (List.mem_of_getElem? (i := 87) rfl)) rfl
theorem q_5_88 : (Jvm.Cond.selects "BulletinOfficeModel" ({ cls := "BulletinOfficeModel", name := "drift", desc := "(II)I" } : Jvm.MethodName) ({ cls := "BulletinOfficeModel", name := "drift", desc := "(II)I" } : Jvm.MethodName)) ∈ hv_ws := wm (wc_5 (List.mem_of_getElem? (i := 88) rfl)) rfl
theorem ar_Lw_arrive : Option.map (fun d => d.parameters.length) (parseMethodDescriptor y_Lw_arrive.desc) = some 6 := by decide +kernel
theorem q_3_131 : (Jvm.Cond.codeWith ({ cls := "BulletinOfficeLaw", name := "arrive", desc := "(LBulletinOffice;IIII[J)I" } : Jvm.MethodName) method_13_code (7 : Nat) (Option.some Jvm.ClassFile.FieldType.int) [((0 : Nat), (14 : Nat), (17 : Nat), (25 : Nat)), ((0 : Nat), (14 : Nat), (21 : Nat), (19 : Nat))]) ∈ hv_ws := wm (wc_3 (List.mem_of_getElem? (i := 131) rfl)) rfl
theorem q_3_130 : (Jvm.Cond.static ({ cls := "BulletinOfficeLaw", name := "arrive", desc := "(LBulletinOffice;IIII[J)I" } : Jvm.MethodName)) ∈ hv_ws := wm (wc_3 (List.mem_of_getElem? (i := 130) rfl)) rfl
theorem q_3_129 : (Jvm.Cond.methodLink "BulletinOfficeLaw" (116 : Nat) ({ cls := "BulletinOfficeLaw", name := "arrive", desc := "(LBulletinOffice;IIII[J)I" } : Jvm.MethodName)) ∈ hv_ws := wm (wc_3 (List.mem_of_getElem? (i := 129) rfl)) rfl
theorem q_5_93 : (Jvm.Cond.code ({ cls := "BulletinOfficeModel", name := "arrive", desc := "(IIII)I" } : Jvm.MethodName) prog_8_method_40_code (6 : Nat) (Option.some Jvm.ClassFile.FieldType.int)) ∈ hv_ws := wm (wc_5 (List.mem_of_getElem? (i := 93) rfl)) rfl
theorem q_5_90 : (Jvm.Cond.methodLink "BulletinOfficeLaw" (119 : Nat) ({ cls := "BulletinOfficeModel", name := "arrive", desc := "(IIII)I" } : Jvm.MethodName)) ∈ hv_ws := wm (wc_5 (List.mem_of_getElem? (i := 90) rfl)) rfl
theorem cs_Lw_119 : hv_cs "BulletinOfficeLaw" 119 y_Md_arrive b_Md_arrive 6 (some (.int)) 4 := ⟨q_5_93, q_1_10, ⟨by decide, by decide⟩, by decide +kernel, Or.inl q_5_90⟩
theorem q_5_91 : (Jvm.Cond.instanceMethod ({ cls := "BulletinOfficeModel", name := "arrive", desc := "(IIII)I" } : Jvm.MethodName)) ∈ hv_ws := wm (wc_5 (List.mem_of_getElem? (i := 91) rfl)) rfl
theorem q_5_92 : (Jvm.Cond.selects "BulletinOfficeModel" ({ cls := "BulletinOfficeModel", name := "arrive", desc := "(IIII)I" } : Jvm.MethodName) ({ cls := "BulletinOfficeModel", name := "arrive", desc := "(IIII)I" } : Jvm.MethodName)) ∈ hv_ws := wm (wc_5 (List.mem_of_getElem? (i := 92) rfl)) rfl
theorem ar_Lw_receiver : Option.map (fun d => d.parameters.length) (parseMethodDescriptor y_Lw_receiver.desc) = some 4 := by decide +kernel
theorem q_3_239 : (Jvm.Cond.codeWith ({ cls := "BulletinOfficeLaw", name := "receiver", desc := "(LBulletinOffice;II[J)I" } : Jvm.MethodName) method_14_code (5 : Nat) (Option.some Jvm.ClassFile.FieldType.int) [((0 : Nat), (10 : Nat), (13 : Nat), (25 : Nat))]) ∈ hv_ws := wm (wc_3 (List.mem_of_getElem? (i := 239) rfl)) rfl
theorem q_3_238 : (Jvm.Cond.static ({ cls := "BulletinOfficeLaw", name := "receiver", desc := "(LBulletinOffice;II[J)I" } : Jvm.MethodName)) ∈ hv_ws := wm (wc_3 (List.mem_of_getElem? (i := 238) rfl)) rfl
theorem q_3_237 : (Jvm.Cond.methodLink "BulletinOfficeLaw" (120 : Nat) ({ cls := "BulletinOfficeLaw", name := "receiver", desc := "(LBulletinOffice;II[J)I" } : Jvm.MethodName)) ∈ hv_ws := wm (wc_3 (List.mem_of_getElem? (i := 237) rfl)) rfl
theorem q_5_145 : (Jvm.Cond.code ({ cls := "BulletinOfficeModel", name := "receiver", desc := "(II)I" } : Jvm.MethodName) prog_8_method_41_code (5 : Nat) (Option.some Jvm.ClassFile.FieldType.int)) ∈ hv_ws := wm (wc_5 (List.mem_of_getElem? (i := 145) rfl)) rfl
theorem q_5_142 : (Jvm.Cond.methodLink "BulletinOfficeLaw" (122 : Nat) ({ cls := "BulletinOfficeModel", name := "receiver", desc := "(II)I" } : Jvm.MethodName)) ∈ hv_ws := wm (wc_5 (List.mem_of_getElem? (i := 142) rfl)) rfl
theorem cs_Lw_122 : hv_cs "BulletinOfficeLaw" 122 y_Md_receiver b_Md_receiver 5 (some (.int)) 2 := ⟨q_5_145, q_1_10, ⟨by decide, by decide⟩, by decide +kernel, Or.inl q_5_142⟩
theorem q_5_143 : (Jvm.Cond.instanceMethod ({ cls := "BulletinOfficeModel", name := "receiver", desc := "(II)I" } : Jvm.MethodName)) ∈ hv_ws := wm (wc_5 (List.mem_of_getElem? (i := 143) rfl)) rfl
theorem q_5_144 : (Jvm.Cond.selects "BulletinOfficeModel" ({ cls := "BulletinOfficeModel", name := "receiver", desc := "(II)I" } : Jvm.MethodName) ({ cls := "BulletinOfficeModel", name := "receiver", desc := "(II)I" } : Jvm.MethodName)) ∈ hv_ws := wm (wc_5 (List.mem_of_getElem? (i := 144) rfl)) rfl
theorem ar_Lw_released : Option.map (fun d => d.parameters.length) (parseMethodDescriptor y_Lw_released.desc) = some 5 := by decide +kernel
theorem q_4_10 : (Jvm.Cond.codeWith ({ cls := "BulletinOfficeLaw", name := "released", desc := "(LBulletinOffice;III[J)I" } : Jvm.MethodName) method_15_code (6 : Nat) (Option.some Jvm.ClassFile.FieldType.int) [((0 : Nat), (12 : Nat), (15 : Nat), (25 : Nat))]) ∈ hv_ws := wm (wc_4 (List.mem_of_getElem? (i := 10) rfl)) rfl
theorem q_4_9 : (Jvm.Cond.static ({ cls := "BulletinOfficeLaw", name := "released", desc := "(LBulletinOffice;III[J)I" } : Jvm.MethodName)) ∈ hv_ws := wm (wc_4 (List.mem_of_getElem? (i := 9) rfl)) rfl
theorem q_4_8 : (Jvm.Cond.methodLink "BulletinOfficeLaw" (123 : Nat) ({ cls := "BulletinOfficeLaw", name := "released", desc := "(LBulletinOffice;III[J)I" } : Jvm.MethodName)) ∈ hv_ws := wm (wc_4 (List.mem_of_getElem? (i := 8) rfl)) rfl
theorem q_5_149 : (Jvm.Cond.code ({ cls := "BulletinOfficeModel", name := "released", desc := "(III)I" } : Jvm.MethodName) prog_8_method_43_code (5 : Nat) (Option.some Jvm.ClassFile.FieldType.int)) ∈ hv_ws := wm (wc_5 (List.mem_of_getElem? (i := 149) rfl)) rfl
theorem q_5_146 : (Jvm.Cond.methodLink "BulletinOfficeLaw" (126 : Nat) ({ cls := "BulletinOfficeModel", name := "released", desc := "(III)I" } : Jvm.MethodName)) ∈ hv_ws := wm (wc_5 (List.mem_of_getElem? (i := 146) rfl)) rfl
theorem cs_Lw_126 : hv_cs "BulletinOfficeLaw" 126 y_Md_released b_Md_released 5 (some (.int)) 3 := ⟨q_5_149, q_1_10, ⟨by decide, by decide⟩, by decide +kernel, Or.inl q_5_146⟩
theorem q_5_147 : (Jvm.Cond.instanceMethod ({ cls := "BulletinOfficeModel", name := "released", desc := "(III)I" } : Jvm.MethodName)) ∈ hv_ws := wm (wc_5 (List.mem_of_getElem? (i := 147) rfl)) rfl
theorem q_5_148 : (Jvm.Cond.selects "BulletinOfficeModel" ({ cls := "BulletinOfficeModel", name := "released", desc := "(III)I" } : Jvm.MethodName) ({ cls := "BulletinOfficeModel", name := "released", desc := "(III)I" } : Jvm.MethodName)) ∈ hv_ws := wm (wc_5 (List.mem_of_getElem? (i := 148) rfl)) rfl
theorem ar_Lw_releasedByte : Option.map (fun d => d.parameters.length) (parseMethodDescriptor y_Lw_releasedByte.desc) = some 5 := by decide +kernel
theorem q_4_23 : (Jvm.Cond.codeWith ({ cls := "BulletinOfficeLaw", name := "releasedByte", desc := "(LBulletinOffice;III[J)I" } : Jvm.MethodName) method_16_code (6 : Nat) (Option.some Jvm.ClassFile.FieldType.int) [((0 : Nat), (12 : Nat), (15 : Nat), (25 : Nat))]) ∈ hv_ws := wm (wc_4 (List.mem_of_getElem? (i := 23) rfl)) rfl
theorem q_4_22 : (Jvm.Cond.static ({ cls := "BulletinOfficeLaw", name := "releasedByte", desc := "(LBulletinOffice;III[J)I" } : Jvm.MethodName)) ∈ hv_ws := wm (wc_4 (List.mem_of_getElem? (i := 22) rfl)) rfl
theorem q_4_21 : (Jvm.Cond.methodLink "BulletinOfficeLaw" (127 : Nat) ({ cls := "BulletinOfficeLaw", name := "releasedByte", desc := "(LBulletinOffice;III[J)I" } : Jvm.MethodName)) ∈ hv_ws := wm (wc_4 (List.mem_of_getElem? (i := 21) rfl)) rfl
theorem q_5_157 : (Jvm.Cond.code ({ cls := "BulletinOfficeModel", name := "releasedByte", desc := "(III)I" } : Jvm.MethodName) prog_8_method_44_code (4 : Nat) (Option.some Jvm.ClassFile.FieldType.int)) ∈ hv_ws := wm (wc_5 (List.mem_of_getElem? (i := 157) rfl)) rfl
theorem q_5_154 : (Jvm.Cond.methodLink "BulletinOfficeLaw" (129 : Nat) ({ cls := "BulletinOfficeModel", name := "releasedByte", desc := "(III)I" } : Jvm.MethodName)) ∈ hv_ws := wm (wc_5 (List.mem_of_getElem? (i := 154) rfl)) rfl
theorem cs_Lw_129 : hv_cs "BulletinOfficeLaw" 129 y_Md_releasedByte b_Md_releasedByte 4 (some (.int)) 3 := ⟨q_5_157, q_1_10, ⟨by decide, by decide⟩, by decide +kernel, Or.inl q_5_154⟩
theorem q_5_155 : (Jvm.Cond.instanceMethod ({ cls := "BulletinOfficeModel", name := "releasedByte", desc := "(III)I" } : Jvm.MethodName)) ∈ hv_ws := wm (wc_5 (List.mem_of_getElem? (i := 155) rfl)) rfl
theorem q_5_156 : (Jvm.Cond.selects "BulletinOfficeModel" ({ cls := "BulletinOfficeModel", name := "releasedByte", desc := "(III)I" } : Jvm.MethodName) ({ cls := "BulletinOfficeModel", name := "releasedByte", desc := "(III)I" } : Jvm.MethodName)) ∈ hv_ws := wm (wc_5 (List.mem_of_getElem? (i := 156) rfl)) rfl
theorem q_1_196 : (Jvm.Cond.code ({ cls := "BulletinOffice", name := "count", desc := "(I)I" } : Jvm.MethodName) prog_1_method_16_code (2 : Nat) (Option.some Jvm.ClassFile.FieldType.int)) ∈ hv_ws := wm (wc_1 (List.mem_of_getElem? (i := 196) rfl)) rfl
theorem q_1_193 : (Jvm.Cond.methodLink "BulletinOfficeLaw" (130 : Nat) ({ cls := "BulletinOffice", name := "count", desc := "(I)I" } : Jvm.MethodName)) ∈ hv_ws := wm (wc_1 (List.mem_of_getElem? (i := 193) rfl)) rfl
theorem cs_Lw_130 : hv_cs "BulletinOfficeLaw" 130 y_Of_count b_Of_count 2 (some (.int)) 1 := ⟨q_1_196, q_1_1, ⟨by decide, by decide⟩, by decide +kernel, Or.inl q_1_193⟩
theorem q_1_194 : (Jvm.Cond.instanceMethod ({ cls := "BulletinOffice", name := "count", desc := "(I)I" } : Jvm.MethodName)) ∈ hv_ws := wm (wc_1 (List.mem_of_getElem? (i := 194) rfl)) rfl
theorem q_1_195 : (Jvm.Cond.selects "BulletinOffice" ({ cls := "BulletinOffice", name := "count", desc := "(I)I" } : Jvm.MethodName) ({ cls := "BulletinOffice", name := "count", desc := "(I)I" } : Jvm.MethodName)) ∈ hv_ws := wm (wc_1 (List.mem_of_getElem? (i := 195) rfl)) rfl
theorem q_5_161 : (Jvm.Cond.code ({ cls := "BulletinOfficeModel", name := "count", desc := "(I)I" } : Jvm.MethodName) prog_8_method_45_code (2 : Nat) (Option.some Jvm.ClassFile.FieldType.int)) ∈ hv_ws := wm (wc_5 (List.mem_of_getElem? (i := 161) rfl)) rfl
theorem q_5_158 : (Jvm.Cond.methodLink "BulletinOfficeLaw" (133 : Nat) ({ cls := "BulletinOfficeModel", name := "count", desc := "(I)I" } : Jvm.MethodName)) ∈ hv_ws := wm (wc_5 (List.mem_of_getElem? (i := 158) rfl)) rfl
theorem cs_Lw_133 : hv_cs "BulletinOfficeLaw" 133 y_Md_count b_Md_count 2 (some (.int)) 1 := ⟨q_5_161, q_1_10, ⟨by decide, by decide⟩, by decide +kernel, Or.inl q_5_158⟩
theorem q_5_159 : (Jvm.Cond.instanceMethod ({ cls := "BulletinOfficeModel", name := "count", desc := "(I)I" } : Jvm.MethodName)) ∈ hv_ws := wm (wc_5 (List.mem_of_getElem? (i := 159) rfl)) rfl
theorem q_5_160 : (Jvm.Cond.selects "BulletinOfficeModel" ({ cls := "BulletinOfficeModel", name := "count", desc := "(I)I" } : Jvm.MethodName) ({ cls := "BulletinOfficeModel", name := "count", desc := "(I)I" } : Jvm.MethodName)) ∈ hv_ws := wm (wc_5 (List.mem_of_getElem? (i := 160) rfl)) rfl
theorem q_5_162 : (Jvm.Cond.arrayClass Jvm.ClassFile.FieldType.long) ∈ hv_ws := wm (wc_5 (List.mem_of_getElem? (i := 162) rfl)) rfl
