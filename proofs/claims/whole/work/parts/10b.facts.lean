theorem q_1_48 : (Jvm.Cond.laysFinal "BulletinOffice$Clock" "BulletinOffice$Clock" "lag" "I") ∈ hv_ws := wm (wc_1 (List.mem_of_getElem? (i := 48) rfl)) rfl
theorem q_1_50 : (Jvm.Cond.laysFinal "BulletinOffice$Clock" "BulletinOffice$Clock" "ticks" "I") ∈ hv_ws := wm (wc_1 (List.mem_of_getElem? (i := 50) rfl)) rfl
theorem q_1_52 : (Jvm.Cond.laysFinal "BulletinOffice$Clock" "BulletinOffice$Clock" "error" "I") ∈ hv_ws := wm (wc_1 (List.mem_of_getElem? (i := 52) rfl)) rfl
theorem q_1_54 : (Jvm.Cond.lays "BulletinOffice$Clock" "BulletinOffice$Clock" "time" "I") ∈ hv_ws := wm (wc_1 (List.mem_of_getElem? (i := 54) rfl)) rfl
theorem hin0 : ∀ w ∈ u_ws R0 T0 4, w ∈ hv_ws := by
  intro w hw
  obtain ⟨k, hk, rfl⟩ := List.mem_map.mp hw
  have hk := List.mem_range.mp hk
  match k, hk with
  | 0, _ => exact q_1_48
  | 1, _ => exact q_1_50
  | 2, _ => exact q_1_52
  | 3, _ => exact q_1_54
  | n + 4, h => exact absurd h (by omega)
theorem q_1_44 : (Jvm.Cond.fieldLink "BulletinOffice$Clock" (13 : Nat) "BulletinOffice$Clock" "ticks" "I") ∈ hv_ws := wm (wc_1 (List.mem_of_getElem? (i := 44) rfl)) rfl
theorem fa_Ck_13 : hv_fa "BulletinOffice$Clock" 13 0 1 := ⟨R0, T0, 4, "BulletinOffice$Clock", rfl, hin0, by decide, Or.inl q_1_44, Or.inl rfl⟩
theorem q_1_46 : (Jvm.Cond.fieldLink "BulletinOffice$Clock" (19 : Nat) "BulletinOffice$Clock" "time" "I") ∈ hv_ws := wm (wc_1 (List.mem_of_getElem? (i := 46) rfl)) rfl
theorem fa_Ck_19 : hv_fa "BulletinOffice$Clock" 19 0 3 := ⟨R0, T0, 4, "BulletinOffice$Clock", rfl, hin0, by decide, Or.inl q_1_46, Or.inl rfl⟩
theorem q_1_45 : (Jvm.Cond.fieldLink "BulletinOffice$Clock" (16 : Nat) "BulletinOffice$Clock" "error" "I") ∈ hv_ws := wm (wc_1 (List.mem_of_getElem? (i := 45) rfl)) rfl
theorem fa_Ck_16 : hv_fa "BulletinOffice$Clock" 16 0 2 := ⟨R0, T0, 4, "BulletinOffice$Clock", rfl, hin0, by decide, Or.inl q_1_45, Or.inl rfl⟩
theorem q_1_41 : (Jvm.Cond.fieldLink "BulletinOffice$Clock" (7 : Nat) "BulletinOffice$Clock" "lag" "I") ∈ hv_ws := wm (wc_1 (List.mem_of_getElem? (i := 41) rfl)) rfl
theorem fa_Ck_7 : hv_fa "BulletinOffice$Clock" 7 0 0 := ⟨R0, T0, 4, "BulletinOffice$Clock", rfl, hin0, by decide, Or.inl q_1_41, Or.inl rfl⟩
theorem q_1_72 : (Jvm.Cond.laysFinal "BulletinOffice$Sealer" "BulletinOffice$Sealer" "result" "[I") ∈ hv_ws := wm (wc_1 (List.mem_of_getElem? (i := 72) rfl)) rfl
theorem q_1_74 : (Jvm.Cond.laysFinal "BulletinOffice$Sealer" "BulletinOffice$Sealer" "codeKey" "[I") ∈ hv_ws := wm (wc_1 (List.mem_of_getElem? (i := 74) rfl)) rfl
theorem q_1_76 : (Jvm.Cond.laysFinal "BulletinOffice$Sealer" "BulletinOffice$Sealer" "row" "[I") ∈ hv_ws := wm (wc_1 (List.mem_of_getElem? (i := 76) rfl)) rfl
theorem q_1_78 : (Jvm.Cond.lays "BulletinOffice$Sealer" "BulletinOffice$Sealer" "length" "I") ∈ hv_ws := wm (wc_1 (List.mem_of_getElem? (i := 78) rfl)) rfl
theorem q_1_80 : (Jvm.Cond.laysFinal "BulletinOffice$Sealer" "BulletinOffice$Sealer" "words" "[I") ∈ hv_ws := wm (wc_1 (List.mem_of_getElem? (i := 80) rfl)) rfl
theorem hin1 : ∀ w ∈ u_ws R1 T1 5, w ∈ hv_ws := by
  intro w hw
  obtain ⟨k, hk, rfl⟩ := List.mem_map.mp hw
  have hk := List.mem_range.mp hk
  match k, hk with
  | 0, _ => exact q_1_72
  | 1, _ => exact q_1_74
  | 2, _ => exact q_1_76
  | 3, _ => exact q_1_78
  | 4, _ => exact q_1_80
  | n + 5, h => exact absurd h (by omega)
theorem q_1_69 : (Jvm.Cond.fieldLink "BulletinOffice$Sealer" (16 : Nat) "BulletinOffice$Sealer" "row" "[I") ∈ hv_ws := wm (wc_1 (List.mem_of_getElem? (i := 69) rfl)) rfl
theorem fa_Sl_16 : hv_fa "BulletinOffice$Sealer" 16 1 2 := ⟨R1, T1, 5, "BulletinOffice$Sealer", rfl, hin1, by decide, Or.inl q_1_69, Or.inl rfl⟩
theorem q_2_65 : (Jvm.Cond.code ({ cls := "java/util/Arrays", name := "fill", desc := "([II)V" } : Jvm.MethodName) prog_24_method_103_code (4 : Nat) (Option.none : Option Jvm.ClassFile.FieldType)) ∈ hv_ws := wm (wc_2 (List.mem_of_getElem? (i := 65) rfl)) rfl
theorem q_1_15 : (Jvm.Cond.initialized "java/util/Arrays") ∈ hv_ws := wm (wc_1 (List.mem_of_getElem? (i := 15) rfl)) rfl
theorem q_2_63 : (Jvm.Cond.methodLink "BulletinOffice$Sealer" (22 : Nat) ({ cls := "java/util/Arrays", name := "fill", desc := "([II)V" } : Jvm.MethodName)) ∈ hv_ws := wm (wc_2 (List.mem_of_getElem? (i := 63) rfl)) rfl
theorem cs_Sl_22 : hv_cs "BulletinOffice$Sealer" 22 y_Ar_fill b_Ar_fill 4 none 2 := ⟨q_2_65, q_1_15, ⟨by decide, by decide⟩, by decide +kernel, Or.inl q_2_63⟩
theorem q_2_64 : (Jvm.Cond.static ({ cls := "java/util/Arrays", name := "fill", desc := "([II)V" } : Jvm.MethodName)) ∈ hv_ws := wm (wc_2 (List.mem_of_getElem? (i := 64) rfl)) rfl
theorem q_1_70 : (Jvm.Cond.fieldLink "BulletinOffice$Sealer" (28 : Nat) "BulletinOffice$Sealer" "length" "I") ∈ hv_ws := wm (wc_1 (List.mem_of_getElem? (i := 70) rfl)) rfl
theorem fp_Sl_28 : hv_fp "BulletinOffice$Sealer" 28 1 3 (.int) false := ⟨R1, T1, 5, "BulletinOffice$Sealer", ty1, rfl, hin1, by decide, Or.inl q_1_70, Or.inl rfl, tk1, nm1, rfl, (fun h => by cases h), tk1 3 (by decide)⟩
theorem fa_Sl_28 : hv_fa "BulletinOffice$Sealer" 28 1 3 := ⟨R1, T1, 5, "BulletinOffice$Sealer", rfl, hin1, by decide, Or.inl q_1_70, Or.inl rfl⟩
theorem q_1_71 : (Jvm.Cond.fieldLink "BulletinOffice$Sealer" (19 : Nat) "BulletinOffice$Sealer" "words" "[I") ∈ hv_ws := wm (wc_1 (List.mem_of_getElem? (i := 71) rfl)) rfl
theorem fa_Sl_19 : hv_fa "BulletinOffice$Sealer" 19 1 4 := ⟨R1, T1, 5, "BulletinOffice$Sealer", rfl, hin1, by decide, Or.inl q_1_71, Or.inl rfl⟩
theorem q_2_76 : (Jvm.Cond.methodLink "BulletinOffice$Sealer" (39 : Nat) ({ cls := "java/lang/System", name := "arraycopy", desc := "(Ljava/lang/Object;ILjava/lang/Object;II)V" } : Jvm.MethodName)) ∈ hv_ws := wm (wc_2 (List.mem_of_getElem? (i := 76) rfl)) rfl
theorem q_2_78 : (Jvm.Cond.native ({ cls := "java/lang/System", name := "arraycopy", desc := "(Ljava/lang/Object;ILjava/lang/Object;II)V" } : Jvm.MethodName)) ∈ hv_ws := wm (wc_2 (List.mem_of_getElem? (i := 78) rfl)) rfl
theorem q_2_77 : (Jvm.Cond.static ({ cls := "java/lang/System", name := "arraycopy", desc := "(Ljava/lang/Object;ILjava/lang/Object;II)V" } : Jvm.MethodName)) ∈ hv_ws := wm (wc_2 (List.mem_of_getElem? (i := 77) rfl)) rfl
theorem q_1_16 : (Jvm.Cond.initialized "java/lang/System") ∈ hv_ws := wm (wc_1 (List.mem_of_getElem? (i := 16) rfl)) rfl
theorem q_1_63 : (Jvm.Cond.fieldLink "BulletinOffice$Sealer" (9 : Nat) "BulletinOffice$Sealer" "result" "[I") ∈ hv_ws := wm (wc_1 (List.mem_of_getElem? (i := 63) rfl)) rfl
theorem fa_Sl_9 : hv_fa "BulletinOffice$Sealer" 9 1 0 := ⟨R1, T1, 5, "BulletinOffice$Sealer", rfl, hin1, by decide, Or.inl q_1_63, Or.inl rfl⟩
theorem q_2_87 : (Jvm.Cond.fieldLink "BulletinOffice$Sealer" (63 : Nat) "BulletinOffice$Sealer" "CONSTANTS" "[I") ∈ hv_ws := wm (wc_2 (List.mem_of_getElem? (i := 87) rfl)) rfl
theorem q_2_62 : (Jvm.Cond.code ({ cls := "BulletinOffice$Sealer", name := "clear", desc := "()V" } : Jvm.MethodName) prog_6_method_2_code (1 : Nat) (Option.none : Option Jvm.ClassFile.FieldType)) ∈ hv_ws := wm (wc_2 (List.mem_of_getElem? (i := 62) rfl)) rfl
theorem q_1_4 : (Jvm.Cond.initialized "BulletinOffice$Sealer") ∈ hv_ws := wm (wc_1 (List.mem_of_getElem? (i := 4) rfl)) rfl
theorem q_2_59 : (Jvm.Cond.methodLink "BulletinOffice$Sealer" (60 : Nat) ({ cls := "BulletinOffice$Sealer", name := "clear", desc := "()V" } : Jvm.MethodName)) ∈ hv_ws := wm (wc_2 (List.mem_of_getElem? (i := 59) rfl)) rfl
theorem cs_Sl_60 : hv_cs "BulletinOffice$Sealer" 60 y_Sl_clear b_Sl_clear 1 none 0 := ⟨q_2_62, q_1_4, ⟨by decide, by decide⟩, by decide +kernel, Or.inl q_2_59⟩
theorem q_2_60 : (Jvm.Cond.instanceMethod ({ cls := "BulletinOffice$Sealer", name := "clear", desc := "()V" } : Jvm.MethodName)) ∈ hv_ws := wm (wc_2 (List.mem_of_getElem? (i := 60) rfl)) rfl
theorem q_2_61 : (Jvm.Cond.selects "BulletinOffice$Sealer" ({ cls := "BulletinOffice$Sealer", name := "clear", desc := "()V" } : Jvm.MethodName) ({ cls := "BulletinOffice$Sealer", name := "clear", desc := "()V" } : Jvm.MethodName)) ∈ hv_ws := wm (wc_2 (List.mem_of_getElem? (i := 61) rfl)) rfl
theorem q_2_69 : (Jvm.Cond.code ({ cls := "BulletinOffice$Sealer", name := "addByte", desc := "(I)V" } : Jvm.MethodName) prog_6_method_3_code (2 : Nat) (Option.none : Option Jvm.ClassFile.FieldType)) ∈ hv_ws := wm (wc_2 (List.mem_of_getElem? (i := 69) rfl)) rfl
theorem q_2_66 : (Jvm.Cond.methodLink "BulletinOffice$Sealer" (32 : Nat) ({ cls := "BulletinOffice$Sealer", name := "addByte", desc := "(I)V" } : Jvm.MethodName)) ∈ hv_ws := wm (wc_2 (List.mem_of_getElem? (i := 66) rfl)) rfl
theorem cs_Sl_32 : hv_cs "BulletinOffice$Sealer" 32 y_Sl_addByte b_Sl_addByte 2 none 1 := ⟨q_2_69, q_1_4, ⟨by decide, by decide⟩, by decide +kernel, Or.inl q_2_66⟩
theorem q_2_67 : (Jvm.Cond.instanceMethod ({ cls := "BulletinOffice$Sealer", name := "addByte", desc := "(I)V" } : Jvm.MethodName)) ∈ hv_ws := wm (wc_2 (List.mem_of_getElem? (i := 67) rfl)) rfl
theorem q_2_68 : (Jvm.Cond.selects "BulletinOffice$Sealer" ({ cls := "BulletinOffice$Sealer", name := "addByte", desc := "(I)V" } : Jvm.MethodName) ({ cls := "BulletinOffice$Sealer", name := "addByte", desc := "(I)V" } : Jvm.MethodName)) ∈ hv_ws := wm (wc_2 (List.mem_of_getElem? (i := 68) rfl)) rfl
theorem q_2_74 : (Jvm.Cond.fieldLink "BulletinOffice$Sealer" (36 : Nat) "BulletinOffice$Sealer" "START" "[I") ∈ hv_ws := wm (wc_2 (List.mem_of_getElem? (i := 74) rfl)) rfl
theorem q_2_82 : (Jvm.Cond.code ({ cls := "BulletinOffice$Sealer", name := "spreadBlock", desc := "(I)V" } : Jvm.MethodName) prog_6_method_7_code (7 : Nat) (Option.none : Option Jvm.ClassFile.FieldType)) ∈ hv_ws := wm (wc_2 (List.mem_of_getElem? (i := 82) rfl)) rfl
theorem q_2_79 : (Jvm.Cond.methodLink "BulletinOffice$Sealer" (45 : Nat) ({ cls := "BulletinOffice$Sealer", name := "spreadBlock", desc := "(I)V" } : Jvm.MethodName)) ∈ hv_ws := wm (wc_2 (List.mem_of_getElem? (i := 79) rfl)) rfl
theorem cs_Sl_45 : hv_cs "BulletinOffice$Sealer" 45 y_Sl_spreadBlock b_Sl_spreadBlock 7 none 1 := ⟨q_2_82, q_1_4, ⟨by decide, by decide⟩, by decide +kernel, Or.inl q_2_79⟩
theorem q_2_81 : (Jvm.Cond.instanceMethod ({ cls := "BulletinOffice$Sealer", name := "spreadBlock", desc := "(I)V" } : Jvm.MethodName)) ∈ hv_ws := wm (wc_2 (List.mem_of_getElem? (i := 81) rfl)) rfl
theorem qs_Sl_spreadBlock : Cond.selects y_Sl_spreadBlock.cls y_Sl_spreadBlock y_Sl_spreadBlock ∈ hv_ws := wp (q := (y_Sl_spreadBlock, 5)) (List.mem_append_left _ (List.mem_of_getElem? (i := 2) rfl)) rfl
theorem q_2_86 : (Jvm.Cond.code ({ cls := "BulletinOffice$Sealer", name := "mixBlock", desc := "()V" } : Jvm.MethodName) prog_6_method_8_code (12 : Nat) (Option.none : Option Jvm.ClassFile.FieldType)) ∈ hv_ws := wm (wc_2 (List.mem_of_getElem? (i := 86) rfl)) rfl
theorem q_2_83 : (Jvm.Cond.methodLink "BulletinOffice$Sealer" (48 : Nat) ({ cls := "BulletinOffice$Sealer", name := "mixBlock", desc := "()V" } : Jvm.MethodName)) ∈ hv_ws := wm (wc_2 (List.mem_of_getElem? (i := 83) rfl)) rfl
theorem cs_Sl_48 : hv_cs "BulletinOffice$Sealer" 48 y_Sl_mixBlock b_Sl_mixBlock 12 none 0 := ⟨q_2_86, q_1_4, ⟨by decide, by decide⟩, by decide +kernel, Or.inl q_2_83⟩
theorem q_2_85 : (Jvm.Cond.instanceMethod ({ cls := "BulletinOffice$Sealer", name := "mixBlock", desc := "()V" } : Jvm.MethodName)) ∈ hv_ws := wm (wc_2 (List.mem_of_getElem? (i := 85) rfl)) rfl
theorem qs_Sl_mixBlock : Cond.selects y_Sl_mixBlock.cls y_Sl_mixBlock y_Sl_mixBlock ∈ hv_ws := wp (q := (y_Sl_mixBlock, 5)) (List.mem_append_left _ (List.mem_of_getElem? (i := 3) rfl)) rfl
theorem q_2_54 : (Jvm.Cond.constant "BulletinOffice$Sealer" (51 : Nat) (909522486 : Int32)) ∈ hv_ws := wm (wc_2 (List.mem_of_getElem? (i := 54) rfl)) rfl
theorem q_2_58 : (Jvm.Cond.code ({ cls := "BulletinOffice$Sealer", name := "startWithKey", desc := "([IIII)V" } : Jvm.MethodName) prog_6_method_6_code (6 : Nat) (Option.none : Option Jvm.ClassFile.FieldType)) ∈ hv_ws := wm (wc_2 (List.mem_of_getElem? (i := 58) rfl)) rfl
theorem q_2_55 : (Jvm.Cond.methodLink "BulletinOffice$Sealer" (52 : Nat) ({ cls := "BulletinOffice$Sealer", name := "startWithKey", desc := "([IIII)V" } : Jvm.MethodName)) ∈ hv_ws := wm (wc_2 (List.mem_of_getElem? (i := 55) rfl)) rfl
theorem cs_Sl_52 : hv_cs "BulletinOffice$Sealer" 52 y_Sl_startWithKey b_Sl_startWithKey 6 none 4 := ⟨q_2_58, q_1_4, ⟨by decide, by decide⟩, by decide +kernel, Or.inl q_2_55⟩
theorem q_2_57 : (Jvm.Cond.instanceMethod ({ cls := "BulletinOffice$Sealer", name := "startWithKey", desc := "([IIII)V" } : Jvm.MethodName)) ∈ hv_ws := wm (wc_2 (List.mem_of_getElem? (i := 57) rfl)) rfl
theorem qs_Sl_startWithKey : Cond.selects y_Sl_startWithKey.cls y_Sl_startWithKey y_Sl_startWithKey ∈ hv_ws := wp (q := (y_Sl_startWithKey, 5)) (List.mem_append_left _ (List.mem_of_getElem? (i := 1) rfl)) rfl
theorem q_2_73 : (Jvm.Cond.code ({ cls := "BulletinOffice$Sealer", name := "finish", desc := "()V" } : Jvm.MethodName) prog_6_method_4_code (4 : Nat) (Option.none : Option Jvm.ClassFile.FieldType)) ∈ hv_ws := wm (wc_2 (List.mem_of_getElem? (i := 73) rfl)) rfl
theorem q_2_70 : (Jvm.Cond.methodLink "BulletinOffice$Sealer" (56 : Nat) ({ cls := "BulletinOffice$Sealer", name := "finish", desc := "()V" } : Jvm.MethodName)) ∈ hv_ws := wm (wc_2 (List.mem_of_getElem? (i := 70) rfl)) rfl
theorem cs_Sl_56 : hv_cs "BulletinOffice$Sealer" 56 y_Sl_finish b_Sl_finish 4 none 0 := ⟨q_2_73, q_1_4, ⟨by decide, by decide⟩, by decide +kernel, Or.inl q_2_70⟩
theorem q_2_71 : (Jvm.Cond.instanceMethod ({ cls := "BulletinOffice$Sealer", name := "finish", desc := "()V" } : Jvm.MethodName)) ∈ hv_ws := wm (wc_2 (List.mem_of_getElem? (i := 71) rfl)) rfl
theorem q_2_72 : (Jvm.Cond.selects "BulletinOffice$Sealer" ({ cls := "BulletinOffice$Sealer", name := "finish", desc := "()V" } : Jvm.MethodName) ({ cls := "BulletinOffice$Sealer", name := "finish", desc := "()V" } : Jvm.MethodName)) ∈ hv_ws := wm (wc_2 (List.mem_of_getElem? (i := 72) rfl)) rfl
theorem q_2_89 : (Jvm.Cond.constant "BulletinOffice$Sealer" (59 : Nat) (1549556828 : Int32)) ∈ hv_ws := wm (wc_2 (List.mem_of_getElem? (i := 89) rfl)) rfl
