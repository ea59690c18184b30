theorem q_4_128 : (Jvm.Cond.fieldLink "BulletinOfficeModel" (220 : Nat) "BulletinOfficeModel" "chains" "I") ∈ hv_ws := wm (wc_4 (List.mem_of_getElem? (i := 128) rfl)) rfl
theorem fa_Md_220 : hv_fa "BulletinOfficeModel" 220 6 17 := ⟨R6, T6, 40, "BulletinOfficeModel", rfl, hin6, by decide, Or.inl q_4_128, Or.inl rfl⟩
theorem q_5_11 : (Jvm.Cond.code ({ cls := "BulletinOfficeModel", name := "down", desc := "()V" } : Jvm.MethodName) prog_8_method_11_code (2 : Nat) (Option.none : Option Jvm.ClassFile.FieldType)) ∈ hv_ws := wm (wc_5 (List.mem_of_getElem? (i := 11) rfl)) rfl
theorem q_5_8 : (Jvm.Cond.methodLink "BulletinOfficeModel" (227 : Nat) ({ cls := "BulletinOfficeModel", name := "down", desc := "()V" } : Jvm.MethodName)) ∈ hv_ws := wm (wc_5 (List.mem_of_getElem? (i := 8) rfl)) rfl
theorem cs_Md_227 : hv_cs "BulletinOfficeModel" 227 y_Md_down b_Md_down 2 none 0 := ⟨q_5_11, q_1_10, ⟨by decide, by decide⟩, by decide +kernel, Or.inl q_5_8⟩
theorem q_5_10 : (Jvm.Cond.instanceMethod ({ cls := "BulletinOfficeModel", name := "down", desc := "()V" } : Jvm.MethodName)) ∈ hv_ws := wm (wc_5 (List.mem_of_getElem? (i := 10) rfl)) rfl
theorem qs_Md_down : Cond.selects y_Md_down.cls y_Md_down y_Md_down ∈ hv_ws := wp (q := (y_Md_down, 40)) (List.mem_append_right _ (List.mem_append_left _ (List.mem_of_getElem? (i := 3) rfl))) rfl
theorem fp_Md_220 : hv_fp "BulletinOfficeModel" 220 6 17 (.int) false := ⟨R6, T6, 40, "BulletinOfficeModel", ty6, rfl, hin6, by decide, Or.inl q_4_128, Or.inl rfl, tk6, nm6, rfl, (fun h => by cases h), tk6 17 (by decide)⟩
theorem q_5_4 : (Jvm.Cond.code ({ cls := "BulletinOfficeModel", name := "fail", desc := "(I)I" } : Jvm.MethodName) prog_8_method_3_code (2 : Nat) (Option.some Jvm.ClassFile.FieldType.int)) ∈ hv_ws := wm (wc_5 (List.mem_of_getElem? (i := 4) rfl)) rfl
theorem q_5_1 : (Jvm.Cond.methodLink "BulletinOfficeModel" (223 : Nat) ({ cls := "BulletinOfficeModel", name := "fail", desc := "(I)I" } : Jvm.MethodName)) ∈ hv_ws := wm (wc_5 (List.mem_of_getElem? (i := 1) rfl)) rfl
theorem cs_Md_223 : hv_cs "BulletinOfficeModel" 223 y_Md_fail b_Md_fail 2 (some (.int)) 1 := ⟨q_5_4, q_1_10, ⟨by decide, by decide⟩, by decide +kernel, Or.inl q_5_1⟩
theorem q_5_3 : (Jvm.Cond.instanceMethod ({ cls := "BulletinOfficeModel", name := "fail", desc := "(I)I" } : Jvm.MethodName)) ∈ hv_ws := wm (wc_5 (List.mem_of_getElem? (i := 3) rfl)) rfl
theorem qs_Md_fail : Cond.selects y_Md_fail.cls y_Md_fail y_Md_fail ∈ hv_ws := wp (q := (y_Md_fail, 40)) (List.mem_append_right _ (List.mem_append_left _ (List.mem_of_getElem? (i := 2) rfl))) rfl
theorem q_5_31 : (Jvm.Cond.constant "BulletinOfficeModel" (230 : Nat) (100000 : Int32)) ∈ hv_ws := wm (wc_5 (List.mem_of_getElem? (i := 31) rfl)) rfl
theorem q_5_34 : (Jvm.Cond.code ({ cls := "BulletinOfficeModel", name := "within", desc := "(III)Z" } : Jvm.MethodName) prog_8_method_5_code (3 : Nat) (Option.some Jvm.ClassFile.FieldType.boolean)) ∈ hv_ws := wm (wc_5 (List.mem_of_getElem? (i := 34) rfl)) rfl
theorem q_5_32 : (Jvm.Cond.methodLink "BulletinOfficeModel" (231 : Nat) ({ cls := "BulletinOfficeModel", name := "within", desc := "(III)Z" } : Jvm.MethodName)) ∈ hv_ws := wm (wc_5 (List.mem_of_getElem? (i := 32) rfl)) rfl
theorem cs_Md_231 : hv_cs "BulletinOfficeModel" 231 y_Md_within b_Md_within 3 (some (.boolean)) 3 := ⟨q_5_34, q_1_10, ⟨by decide, by decide⟩, by decide +kernel, Or.inl q_5_32⟩
theorem q_5_33 : (Jvm.Cond.static ({ cls := "BulletinOfficeModel", name := "within", desc := "(III)Z" } : Jvm.MethodName)) ∈ hv_ws := wm (wc_5 (List.mem_of_getElem? (i := 33) rfl)) rfl
theorem fp_Md_217 : hv_fp "BulletinOfficeModel" 217 6 16 (.int) false := ⟨R6, T6, 40, "BulletinOfficeModel", ty6, rfl, hin6, by decide, Or.inl q_4_127, Or.inl rfl, tk6, nm6, rfl, (fun h => by cases h), tk6 16 (by decide)⟩
theorem q_4_130 : (Jvm.Cond.fieldLink "BulletinOfficeModel" (109 : Nat) "BulletinOfficeModel" "buffer" "[I") ∈ hv_ws := wm (wc_4 (List.mem_of_getElem? (i := 130) rfl)) rfl
theorem fa_Md_109 : hv_fa "BulletinOfficeModel" 109 6 19 := ⟨R6, T6, 40, "BulletinOfficeModel", rfl, hin6, by decide, Or.inl q_4_130, Or.inl rfl⟩
theorem q_5_50 : (Jvm.Cond.code ({ cls := "BulletinOfficeModel", name := "interval", desc := "()I" } : Jvm.MethodName) prog_8_method_13_code (1 : Nat) (Option.some Jvm.ClassFile.FieldType.int)) ∈ hv_ws := wm (wc_5 (List.mem_of_getElem? (i := 50) rfl)) rfl
theorem q_5_47 : (Jvm.Cond.methodLink "BulletinOfficeModel" (235 : Nat) ({ cls := "BulletinOfficeModel", name := "interval", desc := "()I" } : Jvm.MethodName)) ∈ hv_ws := wm (wc_5 (List.mem_of_getElem? (i := 47) rfl)) rfl
theorem cs_Md_235 : hv_cs "BulletinOfficeModel" 235 y_Md_interval b_Md_interval 1 (some (.int)) 0 := ⟨q_5_50, q_1_10, ⟨by decide, by decide⟩, by decide +kernel, Or.inl q_5_47⟩
theorem q_5_49 : (Jvm.Cond.instanceMethod ({ cls := "BulletinOfficeModel", name := "interval", desc := "()I" } : Jvm.MethodName)) ∈ hv_ws := wm (wc_5 (List.mem_of_getElem? (i := 49) rfl)) rfl
theorem qs_Md_interval : Cond.selects y_Md_interval.cls y_Md_interval y_Md_interval ∈ hv_ws := wp (q := (y_Md_interval, 40)) (List.mem_append_right _ (List.mem_append_left _ (List.mem_of_getElem? (i := 7) rfl))) rfl
theorem q_5_53 : (Jvm.Cond.code ({ cls := "BulletinOfficeModel", name := "chainOf", desc := "(I)I" } : Jvm.MethodName) prog_8_method_14_code (1 : Nat) (Option.some Jvm.ClassFile.FieldType.int)) ∈ hv_ws := wm (wc_5 (List.mem_of_getElem? (i := 53) rfl)) rfl
theorem q_5_51 : (Jvm.Cond.methodLink "BulletinOfficeModel" (239 : Nat) ({ cls := "BulletinOfficeModel", name := "chainOf", desc := "(I)I" } : Jvm.MethodName)) ∈ hv_ws := wm (wc_5 (List.mem_of_getElem? (i := 51) rfl)) rfl
theorem cs_Md_239 : hv_cs "BulletinOfficeModel" 239 y_Md_chainOf b_Md_chainOf 1 (some (.int)) 1 := ⟨q_5_53, q_1_10, ⟨by decide, by decide⟩, by decide +kernel, Or.inl q_5_51⟩
theorem q_5_52 : (Jvm.Cond.static ({ cls := "BulletinOfficeModel", name := "chainOf", desc := "(I)I" } : Jvm.MethodName)) ∈ hv_ws := wm (wc_5 (List.mem_of_getElem? (i := 52) rfl)) rfl
theorem q_5_61 : (Jvm.Cond.code ({ cls := "BulletinOfficeModel", name := "keyAt", desc := "(III)I" } : Jvm.MethodName) prog_8_method_15_code (4 : Nat) (Option.some Jvm.ClassFile.FieldType.int)) ∈ hv_ws := wm (wc_5 (List.mem_of_getElem? (i := 61) rfl)) rfl
theorem q_5_58 : (Jvm.Cond.methodLink "BulletinOfficeModel" (242 : Nat) ({ cls := "BulletinOfficeModel", name := "keyAt", desc := "(III)I" } : Jvm.MethodName)) ∈ hv_ws := wm (wc_5 (List.mem_of_getElem? (i := 58) rfl)) rfl
theorem cs_Md_242 : hv_cs "BulletinOfficeModel" 242 y_Md_keyAt b_Md_keyAt 4 (some (.int)) 3 := ⟨q_5_61, q_1_10, ⟨by decide, by decide⟩, by decide +kernel, Or.inl q_5_58⟩
theorem q_5_60 : (Jvm.Cond.instanceMethod ({ cls := "BulletinOfficeModel", name := "keyAt", desc := "(III)I" } : Jvm.MethodName)) ∈ hv_ws := wm (wc_5 (List.mem_of_getElem? (i := 60) rfl)) rfl
theorem qs_Md_keyAt : Cond.selects y_Md_keyAt.cls y_Md_keyAt y_Md_keyAt ∈ hv_ws := wp (q := (y_Md_keyAt, 40)) (List.mem_append_right _ (List.mem_append_left _ (List.mem_of_getElem? (i := 9) rfl))) rfl
theorem q_5_65 : (Jvm.Cond.code ({ cls := "BulletinOfficeModel", name := "codeOfCopy", desc := "(I)V" } : Jvm.MethodName) prog_8_method_12_code (3 : Nat) (Option.none : Option Jvm.ClassFile.FieldType)) ∈ hv_ws := wm (wc_5 (List.mem_of_getElem? (i := 65) rfl)) rfl
theorem q_5_62 : (Jvm.Cond.methodLink "BulletinOfficeModel" (246 : Nat) ({ cls := "BulletinOfficeModel", name := "codeOfCopy", desc := "(I)V" } : Jvm.MethodName)) ∈ hv_ws := wm (wc_5 (List.mem_of_getElem? (i := 62) rfl)) rfl
theorem cs_Md_246 : hv_cs "BulletinOfficeModel" 246 y_Md_codeOfCopy b_Md_codeOfCopy 3 none 1 := ⟨q_5_65, q_1_10, ⟨by decide, by decide⟩, by decide +kernel, Or.inl q_5_62⟩
theorem q_5_64 : (Jvm.Cond.instanceMethod ({ cls := "BulletinOfficeModel", name := "codeOfCopy", desc := "(I)V" } : Jvm.MethodName)) ∈ hv_ws := wm (wc_5 (List.mem_of_getElem? (i := 64) rfl)) rfl
theorem qs_Md_codeOfCopy : Cond.selects y_Md_codeOfCopy.cls y_Md_codeOfCopy y_Md_codeOfCopy ∈ hv_ws := wp (q := (y_Md_codeOfCopy, 40)) (List.mem_append_right _ (List.mem_append_left _ (List.mem_of_getElem? (i := 10) rfl))) rfl
theorem q_4_124 : (Jvm.Cond.fieldLink "BulletinOfficeModel" (179 : Nat) "BulletinOfficeModel" "lag" "I") ∈ hv_ws := wm (wc_4 (List.mem_of_getElem? (i := 124) rfl)) rfl
theorem fa_Md_179 : hv_fa "BulletinOfficeModel" 179 6 13 := ⟨R6, T6, 40, "BulletinOfficeModel", rfl, hin6, by decide, Or.inl q_4_124, Or.inl rfl⟩
theorem q_4_132 : (Jvm.Cond.fieldLink "BulletinOfficeModel" (115 : Nat) "BulletinOfficeModel" "sizes" "[I") ∈ hv_ws := wm (wc_4 (List.mem_of_getElem? (i := 132) rfl)) rfl
theorem fa_Md_115 : hv_fa "BulletinOfficeModel" 115 6 21 := ⟨R6, T6, 40, "BulletinOfficeModel", rfl, hin6, by decide, Or.inl q_4_132, Or.inl rfl⟩
theorem q_4_129 : (Jvm.Cond.fieldLink "BulletinOfficeModel" (249 : Nat) "BulletinOfficeModel" "packets" "I") ∈ hv_ws := wm (wc_4 (List.mem_of_getElem? (i := 129) rfl)) rfl
theorem fa_Md_249 : hv_fa "BulletinOfficeModel" 249 6 18 := ⟨R6, T6, 40, "BulletinOfficeModel", rfl, hin6, by decide, Or.inl q_4_129, Or.inl rfl⟩
theorem q_4_133 : (Jvm.Cond.fieldLink "BulletinOfficeModel" (118 : Nat) "BulletinOfficeModel" "packetBytes" "[I") ∈ hv_ws := wm (wc_4 (List.mem_of_getElem? (i := 133) rfl)) rfl
theorem fa_Md_118 : hv_fa "BulletinOfficeModel" 118 6 22 := ⟨R6, T6, 40, "BulletinOfficeModel", rfl, hin6, by decide, Or.inl q_4_133, Or.inl rfl⟩
theorem fp_Md_249 : hv_fp "BulletinOfficeModel" 249 6 18 (.int) false := ⟨R6, T6, 40, "BulletinOfficeModel", ty6, rfl, hin6, by decide, Or.inl q_4_129, Or.inl rfl, tk6, nm6, rfl, (fun h => by cases h), tk6 18 (by decide)⟩
theorem q_5_57 : (Jvm.Cond.code ({ cls := "BulletinOfficeModel", name := "pack", desc := "(II)I" } : Jvm.MethodName) prog_8_method_20_code (7 : Nat) (Option.some Jvm.ClassFile.FieldType.int)) ∈ hv_ws := wm (wc_5 (List.mem_of_getElem? (i := 57) rfl)) rfl
theorem q_5_54 : (Jvm.Cond.methodLink "BulletinOfficeModel" (252 : Nat) ({ cls := "BulletinOfficeModel", name := "pack", desc := "(II)I" } : Jvm.MethodName)) ∈ hv_ws := wm (wc_5 (List.mem_of_getElem? (i := 54) rfl)) rfl
theorem cs_Md_252 : hv_cs "BulletinOfficeModel" 252 y_Md_pack b_Md_pack 7 (some (.int)) 2 := ⟨q_5_57, q_1_10, ⟨by decide, by decide⟩, by decide +kernel, Or.inl q_5_54⟩
theorem q_5_56 : (Jvm.Cond.instanceMethod ({ cls := "BulletinOfficeModel", name := "pack", desc := "(II)I" } : Jvm.MethodName)) ∈ hv_ws := wm (wc_5 (List.mem_of_getElem? (i := 56) rfl)) rfl
theorem qs_Md_pack : Cond.selects y_Md_pack.cls y_Md_pack y_Md_pack ∈ hv_ws := wp (q := (y_Md_pack, 40)) (List.mem_append_right _ (List.mem_append_left _ (List.mem_of_getElem? (i := 8) rfl))) rfl
theorem q_5_81 : (Jvm.Cond.code ({ cls := "BulletinOfficeModel", name := "chainFor", desc := "(IZ)I" } : Jvm.MethodName) prog_8_method_24_code (4 : Nat) (Option.some Jvm.ClassFile.FieldType.int)) ∈ hv_ws := wm (wc_5 (List.mem_of_getElem? (i := 81) rfl)) rfl
theorem q_5_78 : (Jvm.Cond.methodLink "BulletinOfficeModel" (255 : Nat) ({ cls := "BulletinOfficeModel", name := "chainFor", desc := "(IZ)I" } : Jvm.MethodName)) ∈ hv_ws := wm (wc_5 (List.mem_of_getElem? (i := 78) rfl)) rfl
theorem cs_Md_255 : hv_cs "BulletinOfficeModel" 255 y_Md_chainFor b_Md_chainFor 4 (some (.int)) 2 := ⟨q_5_81, q_1_10, ⟨by decide, by decide⟩, by decide +kernel, Or.inl q_5_78⟩
theorem q_5_80 : (Jvm.Cond.instanceMethod ({ cls := "BulletinOfficeModel", name := "chainFor", desc := "(IZ)I" } : Jvm.MethodName)) ∈ hv_ws := wm (wc_5 (List.mem_of_getElem? (i := 80) rfl)) rfl
theorem qs_Md_chainFor : Cond.selects y_Md_chainFor.cls y_Md_chainFor y_Md_chainFor ∈ hv_ws := wp (q := (y_Md_chainFor, 40)) (List.mem_append_right _ (List.mem_append_left _ (List.mem_of_getElem? (i := 11) rfl))) rfl
theorem q_4_135 : (Jvm.Cond.fieldLink "BulletinOfficeModel" (124 : Nat) "BulletinOfficeModel" "knows" "[Z") ∈ hv_ws := wm (wc_4 (List.mem_of_getElem? (i := 135) rfl)) rfl
theorem fa_Md_124 : hv_fa "BulletinOfficeModel" 124 6 24 := ⟨R6, T6, 40, "BulletinOfficeModel", rfl, hin6, by decide, Or.inl q_4_135, Or.inl rfl⟩
theorem q_4_139 : (Jvm.Cond.fieldLink "BulletinOfficeModel" (137 : Nat) "BulletinOfficeModel" "counts" "[I") ∈ hv_ws := wm (wc_4 (List.mem_of_getElem? (i := 139) rfl)) rfl
theorem fa_Md_137 : hv_fa "BulletinOfficeModel" 137 6 28 := ⟨R6, T6, 40, "BulletinOfficeModel", rfl, hin6, by decide, Or.inl q_4_139, Or.inl rfl⟩
theorem q_4_140 : (Jvm.Cond.fieldLink "BulletinOfficeModel" (140 : Nat) "BulletinOfficeModel" "held" "[I") ∈ hv_ws := wm (wc_4 (List.mem_of_getElem? (i := 140) rfl)) rfl
theorem fa_Md_140 : hv_fa "BulletinOfficeModel" 140 6 29 := ⟨R6, T6, 40, "BulletinOfficeModel", rfl, hin6, by decide, Or.inl q_4_140, Or.inl rfl⟩
theorem q_4_143 : (Jvm.Cond.fieldLink "BulletinOfficeModel" (149 : Nat) "BulletinOfficeModel" "out" "[I") ∈ hv_ws := wm (wc_4 (List.mem_of_getElem? (i := 143) rfl)) rfl
theorem fa_Md_149 : hv_fa "BulletinOfficeModel" 149 6 32 := ⟨R6, T6, 40, "BulletinOfficeModel", rfl, hin6, by decide, Or.inl q_4_143, Or.inl rfl⟩
theorem q_4_136 : (Jvm.Cond.fieldLink "BulletinOfficeModel" (128 : Nat) "BulletinOfficeModel" "firsts" "[I") ∈ hv_ws := wm (wc_4 (List.mem_of_getElem? (i := 136) rfl)) rfl
theorem fa_Md_128 : hv_fa "BulletinOfficeModel" 128 6 25 := ⟨R6, T6, 40, "BulletinOfficeModel", rfl, hin6, by decide, Or.inl q_4_136, Or.inl rfl⟩
theorem q_4_137 : (Jvm.Cond.fieldLink "BulletinOfficeModel" (131 : Nat) "BulletinOfficeModel" "latest" "[I") ∈ hv_ws := wm (wc_4 (List.mem_of_getElem? (i := 137) rfl)) rfl
theorem fa_Md_131 : hv_fa "BulletinOfficeModel" 131 6 26 := ⟨R6, T6, 40, "BulletinOfficeModel", rfl, hin6, by decide, Or.inl q_4_137, Or.inl rfl⟩
theorem q_4_138 : (Jvm.Cond.fieldLink "BulletinOfficeModel" (134 : Nat) "BulletinOfficeModel" "latestKey" "[I") ∈ hv_ws := wm (wc_4 (List.mem_of_getElem? (i := 138) rfl)) rfl
theorem fa_Md_134 : hv_fa "BulletinOfficeModel" 134 6 27 := ⟨R6, T6, 40, "BulletinOfficeModel", rfl, hin6, by decide, Or.inl q_4_138, Or.inl rfl⟩
theorem q_4_134 : (Jvm.Cond.fieldLink "BulletinOfficeModel" (121 : Nat) "BulletinOfficeModel" "drifts" "[I") ∈ hv_ws := wm (wc_4 (List.mem_of_getElem? (i := 134) rfl)) rfl
theorem fa_Md_121 : hv_fa "BulletinOfficeModel" 121 6 23 := ⟨R6, T6, 40, "BulletinOfficeModel", rfl, hin6, by decide, Or.inl q_4_134, Or.inl rfl⟩
