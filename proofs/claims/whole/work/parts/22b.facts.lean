theorem q_5_105 : (Jvm.Cond.code ({ cls := "BulletinOfficeModel", name := "intervalOfCopy", desc := "()I" } : Jvm.MethodName) prog_8_method_28_code (1 : Nat) (Option.some Jvm.ClassFile.FieldType.int)) ∈ hv_ws := wm (wc_5 (List.mem_of_getElem? (i := 105) rfl)) rfl
theorem q_5_102 : (Jvm.Cond.methodLink "BulletinOfficeModel" (259 : Nat) ({ cls := "BulletinOfficeModel", name := "intervalOfCopy", desc := "()I" } : Jvm.MethodName)) ∈ hv_ws := wm (wc_5 (List.mem_of_getElem? (i := 102) rfl)) rfl
theorem cs_Md_259 : hv_cs "BulletinOfficeModel" 259 y_Md_intervalOfCopy b_Md_intervalOfCopy 1 (some (.int)) 0 := ⟨q_5_105, q_1_10, ⟨by decide, by decide⟩, by decide +kernel, Or.inl q_5_102⟩
theorem q_5_104 : (Jvm.Cond.instanceMethod ({ cls := "BulletinOfficeModel", name := "intervalOfCopy", desc := "()I" } : Jvm.MethodName)) ∈ hv_ws := wm (wc_5 (List.mem_of_getElem? (i := 104) rfl)) rfl
theorem qs_Md_intervalOfCopy : Cond.selects y_Md_intervalOfCopy.cls y_Md_intervalOfCopy y_Md_intervalOfCopy ∈ hv_ws := wp (q := (y_Md_intervalOfCopy, 40)) (List.mem_append_right _ (List.mem_append_left _ (List.mem_of_getElem? (i := 14) rfl))) rfl
theorem q_5_113 : (Jvm.Cond.code ({ cls := "BulletinOfficeModel", name := "loadLatest", desc := "(I)V" } : Jvm.MethodName) prog_8_method_30_code (3 : Nat) (Option.none : Option Jvm.ClassFile.FieldType)) ∈ hv_ws := wm (wc_5 (List.mem_of_getElem? (i := 113) rfl)) rfl
theorem q_5_110 : (Jvm.Cond.methodLink "BulletinOfficeModel" (262 : Nat) ({ cls := "BulletinOfficeModel", name := "loadLatest", desc := "(I)V" } : Jvm.MethodName)) ∈ hv_ws := wm (wc_5 (List.mem_of_getElem? (i := 110) rfl)) rfl
theorem cs_Md_262 : hv_cs "BulletinOfficeModel" 262 y_Md_loadLatest b_Md_loadLatest 3 none 1 := ⟨q_5_113, q_1_10, ⟨by decide, by decide⟩, by decide +kernel, Or.inl q_5_110⟩
theorem q_5_112 : (Jvm.Cond.instanceMethod ({ cls := "BulletinOfficeModel", name := "loadLatest", desc := "(I)V" } : Jvm.MethodName)) ∈ hv_ws := wm (wc_5 (List.mem_of_getElem? (i := 112) rfl)) rfl
theorem qs_Md_loadLatest : Cond.selects y_Md_loadLatest.cls y_Md_loadLatest y_Md_loadLatest ∈ hv_ws := wp (q := (y_Md_loadLatest, 40)) (List.mem_append_right _ (List.mem_append_right _ (List.mem_of_getElem? (i := 0) rfl))) rfl
theorem q_5_129 : (Jvm.Cond.code ({ cls := "BulletinOfficeModel", name := "heldAt", desc := "(II)I" } : Jvm.MethodName) prog_8_method_32_code (3 : Nat) (Option.some Jvm.ClassFile.FieldType.int)) ∈ hv_ws := wm (wc_5 (List.mem_of_getElem? (i := 129) rfl)) rfl
theorem q_5_126 : (Jvm.Cond.methodLink "BulletinOfficeModel" (265 : Nat) ({ cls := "BulletinOfficeModel", name := "heldAt", desc := "(II)I" } : Jvm.MethodName)) ∈ hv_ws := wm (wc_5 (List.mem_of_getElem? (i := 126) rfl)) rfl
theorem cs_Md_265 : hv_cs "BulletinOfficeModel" 265 y_Md_heldAt b_Md_heldAt 3 (some (.int)) 2 := ⟨q_5_129, q_1_10, ⟨by decide, by decide⟩, by decide +kernel, Or.inl q_5_126⟩
theorem q_5_128 : (Jvm.Cond.instanceMethod ({ cls := "BulletinOfficeModel", name := "heldAt", desc := "(II)I" } : Jvm.MethodName)) ∈ hv_ws := wm (wc_5 (List.mem_of_getElem? (i := 128) rfl)) rfl
theorem qs_Md_heldAt : Cond.selects y_Md_heldAt.cls y_Md_heldAt y_Md_heldAt ∈ hv_ws := wp (q := (y_Md_heldAt, 40)) (List.mem_append_right _ (List.mem_append_right _ (List.mem_of_getElem? (i := 4) rfl))) rfl
theorem q_4_142 : (Jvm.Cond.fieldLink "BulletinOfficeModel" (146 : Nat) "BulletinOfficeModel" "heldBytes" "[I") ∈ hv_ws := wm (wc_4 (List.mem_of_getElem? (i := 142) rfl)) rfl
theorem fa_Md_146 : hv_fa "BulletinOfficeModel" 146 6 31 := ⟨R6, T6, 40, "BulletinOfficeModel", rfl, hin6, by decide, Or.inl q_4_142, Or.inl rfl⟩
theorem q_5_125 : (Jvm.Cond.code ({ cls := "BulletinOfficeModel", name := "heldInterval", desc := "(II)I" } : Jvm.MethodName) prog_8_method_33_code (4 : Nat) (Option.some Jvm.ClassFile.FieldType.int)) ∈ hv_ws := wm (wc_5 (List.mem_of_getElem? (i := 125) rfl)) rfl
theorem q_5_122 : (Jvm.Cond.methodLink "BulletinOfficeModel" (268 : Nat) ({ cls := "BulletinOfficeModel", name := "heldInterval", desc := "(II)I" } : Jvm.MethodName)) ∈ hv_ws := wm (wc_5 (List.mem_of_getElem? (i := 122) rfl)) rfl
theorem cs_Md_268 : hv_cs "BulletinOfficeModel" 268 y_Md_heldInterval b_Md_heldInterval 4 (some (.int)) 2 := ⟨q_5_125, q_1_10, ⟨by decide, by decide⟩, by decide +kernel, Or.inl q_5_122⟩
theorem q_5_124 : (Jvm.Cond.instanceMethod ({ cls := "BulletinOfficeModel", name := "heldInterval", desc := "(II)I" } : Jvm.MethodName)) ∈ hv_ws := wm (wc_5 (List.mem_of_getElem? (i := 124) rfl)) rfl
theorem qs_Md_heldInterval : Cond.selects y_Md_heldInterval.cls y_Md_heldInterval y_Md_heldInterval ∈ hv_ws := wp (q := (y_Md_heldInterval, 40)) (List.mem_append_right _ (List.mem_append_right _ (List.mem_of_getElem? (i := 3) rfl))) rfl
theorem q_4_144 : (Jvm.Cond.fieldLink "BulletinOfficeModel" (152 : Nat) "BulletinOfficeModel" "outInterval" "[I") ∈ hv_ws := wm (wc_4 (List.mem_of_getElem? (i := 144) rfl)) rfl
theorem fa_Md_152 : hv_fa "BulletinOfficeModel" 152 6 33 := ⟨R6, T6, 40, "BulletinOfficeModel", rfl, hin6, by decide, Or.inl q_4_144, Or.inl rfl⟩
theorem q_4_145 : (Jvm.Cond.fieldLink "BulletinOfficeModel" (156 : Nat) "BulletinOfficeModel" "outCode" "[I") ∈ hv_ws := wm (wc_4 (List.mem_of_getElem? (i := 145) rfl)) rfl
theorem fa_Md_156 : hv_fa "BulletinOfficeModel" 156 6 34 := ⟨R6, T6, 40, "BulletinOfficeModel", rfl, hin6, by decide, Or.inl q_4_145, Or.inl rfl⟩
theorem q_4_146 : (Jvm.Cond.fieldLink "BulletinOfficeModel" (159 : Nat) "BulletinOfficeModel" "outSize" "[I") ∈ hv_ws := wm (wc_4 (List.mem_of_getElem? (i := 146) rfl)) rfl
theorem fa_Md_159 : hv_fa "BulletinOfficeModel" 159 6 35 := ⟨R6, T6, 40, "BulletinOfficeModel", rfl, hin6, by decide, Or.inl q_4_146, Or.inl rfl⟩
theorem q_4_147 : (Jvm.Cond.fieldLink "BulletinOfficeModel" (163 : Nat) "BulletinOfficeModel" "outBytes" "[I") ∈ hv_ws := wm (wc_4 (List.mem_of_getElem? (i := 147) rfl)) rfl
theorem fa_Md_163 : hv_fa "BulletinOfficeModel" 163 6 36 := ⟨R6, T6, 40, "BulletinOfficeModel", rfl, hin6, by decide, Or.inl q_4_147, Or.inl rfl⟩
theorem q_4_141 : (Jvm.Cond.fieldLink "BulletinOfficeModel" (143 : Nat) "BulletinOfficeModel" "heldSize" "[I") ∈ hv_ws := wm (wc_4 (List.mem_of_getElem? (i := 141) rfl)) rfl
theorem fa_Md_143 : hv_fa "BulletinOfficeModel" 143 6 30 := ⟨R6, T6, 40, "BulletinOfficeModel", rfl, hin6, by decide, Or.inl q_4_141, Or.inl rfl⟩
theorem q_5_137 : (Jvm.Cond.code ({ cls := "BulletinOfficeModel", name := "keep", desc := "(III)V" } : Jvm.MethodName) prog_8_method_37_code (6 : Nat) (Option.none : Option Jvm.ClassFile.FieldType)) ∈ hv_ws := wm (wc_5 (List.mem_of_getElem? (i := 137) rfl)) rfl
theorem q_5_134 : (Jvm.Cond.methodLink "BulletinOfficeModel" (279 : Nat) ({ cls := "BulletinOfficeModel", name := "keep", desc := "(III)V" } : Jvm.MethodName)) ∈ hv_ws := wm (wc_5 (List.mem_of_getElem? (i := 134) rfl)) rfl
theorem cs_Md_279 : hv_cs "BulletinOfficeModel" 279 y_Md_keep b_Md_keep 6 none 3 := ⟨q_5_137, q_1_10, ⟨by decide, by decide⟩, by decide +kernel, Or.inl q_5_134⟩
theorem q_5_136 : (Jvm.Cond.instanceMethod ({ cls := "BulletinOfficeModel", name := "keep", desc := "(III)V" } : Jvm.MethodName)) ∈ hv_ws := wm (wc_5 (List.mem_of_getElem? (i := 136) rfl)) rfl
theorem qs_Md_keep : Cond.selects y_Md_keep.cls y_Md_keep y_Md_keep ∈ hv_ws := wp (q := (y_Md_keep, 40)) (List.mem_append_right _ (List.mem_append_right _ (List.mem_of_getElem? (i := 6) rfl))) rfl
theorem q_4_150 : (Jvm.Cond.fieldLink "BulletinOfficeModel" (172 : Nat) "BulletinOfficeModel" "mine" "[I") ∈ hv_ws := wm (wc_4 (List.mem_of_getElem? (i := 150) rfl)) rfl
theorem fa_Md_172 : hv_fa "BulletinOfficeModel" 172 6 39 := ⟨R6, T6, 40, "BulletinOfficeModel", rfl, hin6, by decide, Or.inl q_4_150, Or.inl rfl⟩
theorem q_5_121 : (Jvm.Cond.code ({ cls := "BulletinOfficeModel", name := "isDue", desc := "(II)Z" } : Jvm.MethodName) prog_8_method_34_code (5 : Nat) (Option.some Jvm.ClassFile.FieldType.boolean)) ∈ hv_ws := wm (wc_5 (List.mem_of_getElem? (i := 121) rfl)) rfl
theorem q_5_118 : (Jvm.Cond.methodLink "BulletinOfficeModel" (271 : Nat) ({ cls := "BulletinOfficeModel", name := "isDue", desc := "(II)Z" } : Jvm.MethodName)) ∈ hv_ws := wm (wc_5 (List.mem_of_getElem? (i := 118) rfl)) rfl
theorem cs_Md_271 : hv_cs "BulletinOfficeModel" 271 y_Md_isDue b_Md_isDue 5 (some (.boolean)) 2 := ⟨q_5_121, q_1_10, ⟨by decide, by decide⟩, by decide +kernel, Or.inl q_5_118⟩
theorem q_5_120 : (Jvm.Cond.instanceMethod ({ cls := "BulletinOfficeModel", name := "isDue", desc := "(II)Z" } : Jvm.MethodName)) ∈ hv_ws := wm (wc_5 (List.mem_of_getElem? (i := 120) rfl)) rfl
theorem qs_Md_isDue : Cond.selects y_Md_isDue.cls y_Md_isDue y_Md_isDue ∈ hv_ws := wp (q := (y_Md_isDue, 40)) (List.mem_append_right _ (List.mem_append_right _ (List.mem_of_getElem? (i := 2) rfl))) rfl
theorem q_5_133 : (Jvm.Cond.code ({ cls := "BulletinOfficeModel", name := "goOut", desc := "(II)V" } : Jvm.MethodName) prog_8_method_36_code (9 : Nat) (Option.none : Option Jvm.ClassFile.FieldType)) ∈ hv_ws := wm (wc_5 (List.mem_of_getElem? (i := 133) rfl)) rfl
theorem q_5_130 : (Jvm.Cond.methodLink "BulletinOfficeModel" (275 : Nat) ({ cls := "BulletinOfficeModel", name := "goOut", desc := "(II)V" } : Jvm.MethodName)) ∈ hv_ws := wm (wc_5 (List.mem_of_getElem? (i := 130) rfl)) rfl
theorem cs_Md_275 : hv_cs "BulletinOfficeModel" 275 y_Md_goOut b_Md_goOut 9 none 2 := ⟨q_5_133, q_1_10, ⟨by decide, by decide⟩, by decide +kernel, Or.inl q_5_130⟩
theorem q_5_132 : (Jvm.Cond.instanceMethod ({ cls := "BulletinOfficeModel", name := "goOut", desc := "(II)V" } : Jvm.MethodName)) ∈ hv_ws := wm (wc_5 (List.mem_of_getElem? (i := 132) rfl)) rfl
theorem qs_Md_goOut : Cond.selects y_Md_goOut.cls y_Md_goOut y_Md_goOut ∈ hv_ws := wp (q := (y_Md_goOut, 40)) (List.mem_append_right _ (List.mem_append_right _ (List.mem_of_getElem? (i := 5) rfl))) rfl
