theorem q_1_136 : (Jvm.Cond.classLink "BulletinOffice$Receiver" (9 : Nat) "BulletinOffice$KeyChain") ∈ hv_ws := wm (wc_1 (List.mem_of_getElem? (i := 136) rfl)) rfl
theorem q_1_137 : (Jvm.Cond.classLink "BulletinOffice$Receiver" (17 : Nat) "java/util/ArrayList") ∈ hv_ws := wm (wc_1 (List.mem_of_getElem? (i := 137) rfl)) rfl
theorem q_1_104 : (Jvm.Cond.instantiable "java/util/ArrayList" (3 : Nat)) ∈ hv_ws := wm (wc_1 (List.mem_of_getElem? (i := 104) rfl)) rfl
theorem nw_Rc_17 : hv_nw "BulletinOffice$Receiver" 17 7 3 [.null, .int 0, .int 0] := ⟨R7, T7, ty7, rfl, hin7, tk7, q_1_137, q_1_104, q_1_8, fun j hj => match j, hj with
  | 0, _ => rfl
  | 1, _ => rfl
  | 2, _ => rfl
  | n + 3, h => absurd h (by omega)⟩
theorem q_1_107 : (Jvm.Cond.code ({ cls := "java/util/ArrayList", name := "<init>", desc := "()V" } : Jvm.MethodName) prog_23_method_2_code (1 : Nat) (Option.none : Option Jvm.ClassFile.FieldType)) ∈ hv_ws := wm (wc_1 (List.mem_of_getElem? (i := 107) rfl)) rfl
theorem q_1_138 : (Jvm.Cond.methodLink "BulletinOffice$Receiver" (19 : Nat) ({ cls := "java/util/ArrayList", name := "<init>", desc := "()V" } : Jvm.MethodName)) ∈ hv_ws := wm (wc_1 (List.mem_of_getElem? (i := 138) rfl)) rfl
theorem cs_Rc_19 : hv_cs "BulletinOffice$Receiver" 19 y_Al_init b_Al_init 1 none 0 := ⟨q_1_107, q_1_8, ⟨by decide, by decide⟩, by decide +kernel, Or.inl q_1_138⟩
theorem q_1_106 : (Jvm.Cond.instanceMethod ({ cls := "java/util/ArrayList", name := "<init>", desc := "()V" } : Jvm.MethodName)) ∈ hv_ws := wm (wc_1 (List.mem_of_getElem? (i := 106) rfl)) rfl
theorem q_1_154 : (Jvm.Cond.laysFinal "BulletinOffice$Receiver" "BulletinOffice$Receiver" "clock" "LBulletinOffice$Clock;") ∈ hv_ws := wm (wc_1 (List.mem_of_getElem? (i := 154) rfl)) rfl
theorem q_1_156 : (Jvm.Cond.laysFinal "BulletinOffice$Receiver" "BulletinOffice$Receiver" "sealer" "LBulletinOffice$Sealer;") ∈ hv_ws := wm (wc_1 (List.mem_of_getElem? (i := 156) rfl)) rfl
theorem q_1_158 : (Jvm.Cond.laysFinal "BulletinOffice$Receiver" "BulletinOffice$Receiver" "known" "[LBulletinOffice$KeyChain;") ∈ hv_ws := wm (wc_1 (List.mem_of_getElem? (i := 158) rfl)) rfl
theorem q_1_160 : (Jvm.Cond.laysFinal "BulletinOffice$Receiver" "BulletinOffice$Receiver" "held" "Ljava/util/ArrayList;") ∈ hv_ws := wm (wc_1 (List.mem_of_getElem? (i := 160) rfl)) rfl
theorem q_1_162 : (Jvm.Cond.laysFinal "BulletinOffice$Receiver" "BulletinOffice$Receiver" "kept" "Ljava/util/ArrayList;") ∈ hv_ws := wm (wc_1 (List.mem_of_getElem? (i := 162) rfl)) rfl
theorem q_1_164 : (Jvm.Cond.laysFinal "BulletinOffice$Receiver" "BulletinOffice$Receiver" "counts" "[I") ∈ hv_ws := wm (wc_1 (List.mem_of_getElem? (i := 164) rfl)) rfl
theorem q_1_166 : (Jvm.Cond.lays "BulletinOffice$Receiver" "BulletinOffice$Receiver" "releasedCount" "I") ∈ hv_ws := wm (wc_1 (List.mem_of_getElem? (i := 166) rfl)) rfl
theorem q_1_168 : (Jvm.Cond.lays "BulletinOffice$Receiver" "BulletinOffice$Receiver" "drift" "I") ∈ hv_ws := wm (wc_1 (List.mem_of_getElem? (i := 168) rfl)) rfl
theorem hin4 : ∀ w ∈ u_ws R4 T4 8, w ∈ hv_ws := by
  intro w hw
  obtain ⟨k, hk, rfl⟩ := List.mem_map.mp hw
  have hk := List.mem_range.mp hk
  match k, hk with
  | 0, _ => exact q_1_154
  | 1, _ => exact q_1_156
  | 2, _ => exact q_1_158
  | 3, _ => exact q_1_160
  | 4, _ => exact q_1_162
  | 5, _ => exact q_1_164
  | 6, _ => exact q_1_166
  | 7, _ => exact q_1_168
  | n + 8, h => exact absurd h (by omega)
theorem q_1_142 : (Jvm.Cond.fieldLink "BulletinOffice$Receiver" (11 : Nat) "BulletinOffice$Receiver" "known" "[LBulletinOffice$KeyChain;") ∈ hv_ws := wm (wc_1 (List.mem_of_getElem? (i := 142) rfl)) rfl
theorem fa_Rc_11 : hv_fa "BulletinOffice$Receiver" 11 4 2 := ⟨R4, T4, 8, "BulletinOffice$Receiver", rfl, hin4, by decide, Or.inl q_1_142, Or.inl rfl⟩
theorem q_1_86 : (Jvm.Cond.instantiable "BulletinOffice$KeyChain" (3 : Nat)) ∈ hv_ws := wm (wc_1 (List.mem_of_getElem? (i := 86) rfl)) rfl
theorem nw_Rc_9 : hv_nw "BulletinOffice$Receiver" 9 2 3 [.null, .int 0, .int 0] := ⟨R2, T2, ty2, rfl, hin2, tk2, q_1_136, q_1_86, q_1_5, fun j hj => match j, hj with
  | 0, _ => rfl
  | 1, _ => rfl
  | 2, _ => rfl
  | n + 3, h => absurd h (by omega)⟩
theorem q_1_89 : (Jvm.Cond.code ({ cls := "BulletinOffice$KeyChain", name := "<init>", desc := "()V" } : Jvm.MethodName) prog_3_method_1_code (1 : Nat) (Option.none : Option Jvm.ClassFile.FieldType)) ∈ hv_ws := wm (wc_1 (List.mem_of_getElem? (i := 89) rfl)) rfl
theorem cs_Rc_39 : hv_cs "BulletinOffice$Receiver" 39 y_Kc_init b_Kc_init 1 none 0 := ⟨q_1_89, q_1_5, ⟨by decide, by decide⟩, by decide +kernel, Or.inr ⟨"BulletinOffice", List.mem_of_getElem? (i := 2) rfl⟩⟩
theorem q_1_88 : (Jvm.Cond.instanceMethod ({ cls := "BulletinOffice$KeyChain", name := "<init>", desc := "()V" } : Jvm.MethodName)) ∈ hv_ws := wm (wc_1 (List.mem_of_getElem? (i := 88) rfl)) rfl
theorem q_1_141 : (Jvm.Cond.fieldLink "BulletinOffice$Receiver" (35 : Nat) "BulletinOffice$Receiver" "sealer" "LBulletinOffice$Sealer;") ∈ hv_ws := wm (wc_1 (List.mem_of_getElem? (i := 141) rfl)) rfl
theorem fp_Rc_35 : hv_fp "BulletinOffice$Receiver" 35 4 1 (.object "BulletinOffice$Sealer") true := ⟨R4, T4, 8, "BulletinOffice$Receiver", ty4, rfl, hin4, by decide, Or.inl q_1_141, Or.inl rfl, tk4, nm4, rfl, (fun _ => rfl), tk4 1 (by decide)⟩
theorem q_1_140 : (Jvm.Cond.fieldLink "BulletinOffice$Receiver" (31 : Nat) "BulletinOffice$Receiver" "clock" "LBulletinOffice$Clock;") ∈ hv_ws := wm (wc_1 (List.mem_of_getElem? (i := 140) rfl)) rfl
theorem fp_Rc_31 : hv_fp "BulletinOffice$Receiver" 31 4 0 (.object "BulletinOffice$Clock") true := ⟨R4, T4, 8, "BulletinOffice$Receiver", ty4, rfl, hin4, by decide, Or.inl q_1_140, Or.inl rfl, tk4, nm4, rfl, (fun _ => rfl), tk4 0 (by decide)⟩
theorem q_1_148 : (Jvm.Cond.fieldLink "BulletinOffice$Receiver" (27 : Nat) "BulletinOffice$Receiver" "counts" "[I") ∈ hv_ws := wm (wc_1 (List.mem_of_getElem? (i := 148) rfl)) rfl
theorem fp_Rc_27 : hv_fp "BulletinOffice$Receiver" 27 4 5 (.array (.int)) true := ⟨R4, T4, 8, "BulletinOffice$Receiver", ty4, rfl, hin4, by decide, Or.inl q_1_148, Or.inl rfl, tk4, nm4, rfl, (fun _ => rfl), tk4 5 (by decide)⟩
theorem q_1_146 : (Jvm.Cond.fieldLink "BulletinOffice$Receiver" (24 : Nat) "BulletinOffice$Receiver" "kept" "Ljava/util/ArrayList;") ∈ hv_ws := wm (wc_1 (List.mem_of_getElem? (i := 146) rfl)) rfl
theorem fp_Rc_24 : hv_fp "BulletinOffice$Receiver" 24 4 4 (.object "java/util/ArrayList") true := ⟨R4, T4, 8, "BulletinOffice$Receiver", ty4, rfl, hin4, by decide, Or.inl q_1_146, Or.inl rfl, tk4, nm4, rfl, (fun _ => rfl), tk4 4 (by decide)⟩
theorem q_1_144 : (Jvm.Cond.fieldLink "BulletinOffice$Receiver" (20 : Nat) "BulletinOffice$Receiver" "held" "Ljava/util/ArrayList;") ∈ hv_ws := wm (wc_1 (List.mem_of_getElem? (i := 144) rfl)) rfl
theorem fp_Rc_20 : hv_fp "BulletinOffice$Receiver" 20 4 3 (.object "java/util/ArrayList") true := ⟨R4, T4, 8, "BulletinOffice$Receiver", ty4, rfl, hin4, by decide, Or.inl q_1_144, Or.inl rfl, tk4, nm4, rfl, (fun _ => rfl), tk4 3 (by decide)⟩
theorem fp_Rc_11 : hv_fp "BulletinOffice$Receiver" 11 4 2 (.array (.object "BulletinOffice$KeyChain")) true := ⟨R4, T4, 8, "BulletinOffice$Receiver", ty4, rfl, hin4, by decide, Or.inl q_1_142, Or.inl rfl, tk4, nm4, rfl, (fun _ => rfl), tk4 2 (by decide)⟩
theorem q_1_135 : (Jvm.Cond.methodLink "BulletinOffice$Receiver" (3 : Nat) ({ cls := "java/lang/Object", name := "<init>", desc := "()V" } : Jvm.MethodName)) ∈ hv_ws := wm (wc_1 (List.mem_of_getElem? (i := 135) rfl)) rfl
theorem q_1_32 : (Jvm.Cond.classLink "BulletinOffice" (7 : Nat) "BulletinOffice$Clock") ∈ hv_ws := wm (wc_1 (List.mem_of_getElem? (i := 32) rfl)) rfl
theorem q_1_33 : (Jvm.Cond.instantiable "BulletinOffice$Clock" (4 : Nat)) ∈ hv_ws := wm (wc_1 (List.mem_of_getElem? (i := 33) rfl)) rfl
theorem q_1_2 : (Jvm.Cond.initialized "BulletinOffice$Clock") ∈ hv_ws := wm (wc_1 (List.mem_of_getElem? (i := 2) rfl)) rfl
theorem nw_Of_7 : hv_nw "BulletinOffice" 7 0 4 [.int 0, .int 0, .int 0, .int 0] := ⟨R0, T0, ty0, rfl, hin0, tk0, q_1_32, q_1_33, q_1_2, fun j hj => match j, hj with
  | 0, _ => rfl
  | 1, _ => rfl
  | 2, _ => rfl
  | 3, _ => rfl
  | n + 4, h => absurd h (by omega)⟩
theorem q_1_36 : (Jvm.Cond.code ({ cls := "java/lang/Math", name := "floorMod", desc := "(II)I" } : Jvm.MethodName) prog_16_method_50_code (3 : Nat) (Option.some Jvm.ClassFile.FieldType.int)) ∈ hv_ws := wm (wc_1 (List.mem_of_getElem? (i := 36) rfl)) rfl
theorem q_1_34 : (Jvm.Cond.methodLink "BulletinOffice" (9 : Nat) ({ cls := "java/lang/Math", name := "floorMod", desc := "(II)I" } : Jvm.MethodName)) ∈ hv_ws := wm (wc_1 (List.mem_of_getElem? (i := 34) rfl)) rfl
theorem cs_Of_9 : hv_cs "BulletinOffice" 9 y_Mt_floorMod b_Mt_floorMod 3 (some (.int)) 2 := ⟨q_1_36, q_1_3, ⟨by decide, by decide⟩, by decide +kernel, Or.inl q_1_34⟩
theorem q_1_35 : (Jvm.Cond.static ({ cls := "java/lang/Math", name := "floorMod", desc := "(II)I" } : Jvm.MethodName)) ∈ hv_ws := wm (wc_1 (List.mem_of_getElem? (i := 35) rfl)) rfl
theorem q_1_39 : (Jvm.Cond.code ({ cls := "BulletinOffice$Clock", name := "<init>", desc := "(III)V" } : Jvm.MethodName) prog_2_method_1_code (4 : Nat) (Option.none : Option Jvm.ClassFile.FieldType)) ∈ hv_ws := wm (wc_1 (List.mem_of_getElem? (i := 39) rfl)) rfl
theorem q_1_37 : (Jvm.Cond.methodLink "BulletinOffice" (15 : Nat) ({ cls := "BulletinOffice$Clock", name := "<init>", desc := "(III)V" } : Jvm.MethodName)) ∈ hv_ws := wm (wc_1 (List.mem_of_getElem? (i := 37) rfl)) rfl
theorem cs_Of_15 : hv_cs "BulletinOffice" 15 y_Ck_init b_Ck_init 4 none 3 := ⟨q_1_39, q_1_2, ⟨by decide, by decide⟩, by decide +kernel, Or.inl q_1_37⟩
theorem q_1_38 : (Jvm.Cond.instanceMethod ({ cls := "BulletinOffice$Clock", name := "<init>", desc := "(III)V" } : Jvm.MethodName)) ∈ hv_ws := wm (wc_1 (List.mem_of_getElem? (i := 38) rfl)) rfl
theorem q_1_57 : (Jvm.Cond.classLink "BulletinOffice" (24 : Nat) "BulletinOffice$Sealer") ∈ hv_ws := wm (wc_1 (List.mem_of_getElem? (i := 57) rfl)) rfl
theorem q_1_58 : (Jvm.Cond.instantiable "BulletinOffice$Sealer" (5 : Nat)) ∈ hv_ws := wm (wc_1 (List.mem_of_getElem? (i := 58) rfl)) rfl
theorem nw_Of_24 : hv_nw "BulletinOffice" 24 1 5 [.null, .null, .null, .int 0, .null] := ⟨R1, T1, ty1, rfl, hin1, tk1, q_1_57, q_1_58, q_1_4, fun j hj => match j, hj with
  | 0, _ => rfl
  | 1, _ => rfl
  | 2, _ => rfl
  | 3, _ => rfl
  | 4, _ => rfl
  | n + 5, h => absurd h (by omega)⟩
theorem q_1_61 : (Jvm.Cond.code ({ cls := "BulletinOffice$Sealer", name := "<init>", desc := "()V" } : Jvm.MethodName) prog_6_method_1_code (1 : Nat) (Option.none : Option Jvm.ClassFile.FieldType)) ∈ hv_ws := wm (wc_1 (List.mem_of_getElem? (i := 61) rfl)) rfl
theorem cs_Of_26 : hv_cs "BulletinOffice" 26 y_Sl_init b_Sl_init 1 none 0 := ⟨q_1_61, q_1_4, ⟨by decide, by decide⟩, by decide +kernel, Or.inr ⟨"BulletinOffice", List.mem_of_getElem? (i := 0) rfl⟩⟩
theorem q_1_60 : (Jvm.Cond.instanceMethod ({ cls := "BulletinOffice$Sealer", name := "<init>", desc := "()V" } : Jvm.MethodName)) ∈ hv_ws := wm (wc_1 (List.mem_of_getElem? (i := 60) rfl)) rfl
theorem q_1_84 : (Jvm.Cond.classLink "BulletinOffice" (35 : Nat) "BulletinOffice$KeyChain") ∈ hv_ws := wm (wc_1 (List.mem_of_getElem? (i := 84) rfl)) rfl
theorem q_1_178 : (Jvm.Cond.laysFinal "BulletinOffice" "BulletinOffice" "clock" "LBulletinOffice$Clock;") ∈ hv_ws := wm (wc_1 (List.mem_of_getElem? (i := 178) rfl)) rfl
theorem q_1_180 : (Jvm.Cond.laysFinal "BulletinOffice" "BulletinOffice" "sealer" "LBulletinOffice$Sealer;") ∈ hv_ws := wm (wc_1 (List.mem_of_getElem? (i := 180) rfl)) rfl
theorem q_1_182 : (Jvm.Cond.laysFinal "BulletinOffice" "BulletinOffice" "buffer" "[I") ∈ hv_ws := wm (wc_1 (List.mem_of_getElem? (i := 182) rfl)) rfl
theorem q_1_184 : (Jvm.Cond.laysFinal "BulletinOffice" "BulletinOffice" "chains" "[LBulletinOffice$KeyChain;") ∈ hv_ws := wm (wc_1 (List.mem_of_getElem? (i := 184) rfl)) rfl
theorem q_1_186 : (Jvm.Cond.lays "BulletinOffice" "BulletinOffice" "chainCount" "I") ∈ hv_ws := wm (wc_1 (List.mem_of_getElem? (i := 186) rfl)) rfl
theorem q_1_188 : (Jvm.Cond.laysFinal "BulletinOffice" "BulletinOffice" "packets" "Ljava/util/ArrayList;") ∈ hv_ws := wm (wc_1 (List.mem_of_getElem? (i := 188) rfl)) rfl
theorem q_1_190 : (Jvm.Cond.laysFinal "BulletinOffice" "BulletinOffice" "receivers" "[LBulletinOffice$Receiver;") ∈ hv_ws := wm (wc_1 (List.mem_of_getElem? (i := 190) rfl)) rfl
theorem hin5 : ∀ w ∈ u_ws R5 T5 7, w ∈ hv_ws := by
  intro w hw
  obtain ⟨k, hk, rfl⟩ := List.mem_map.mp hw
  have hk := List.mem_range.mp hk
  match k, hk with
  | 0, _ => exact q_1_178
  | 1, _ => exact q_1_180
  | 2, _ => exact q_1_182
  | 3, _ => exact q_1_184
  | 4, _ => exact q_1_186
  | 5, _ => exact q_1_188
  | 6, _ => exact q_1_190
  | n + 7, h => exact absurd h (by omega)
theorem q_1_174 : (Jvm.Cond.fieldLink "BulletinOffice" (37 : Nat) "BulletinOffice" "chains" "[LBulletinOffice$KeyChain;") ∈ hv_ws := wm (wc_1 (List.mem_of_getElem? (i := 174) rfl)) rfl
theorem fa_Of_37 : hv_fa "BulletinOffice" 37 5 3 := ⟨R5, T5, 7, "BulletinOffice", rfl, hin5, by decide, Or.inl q_1_174, Or.inl rfl⟩
theorem nw_Of_35 : hv_nw "BulletinOffice" 35 2 3 [.null, .int 0, .int 0] := ⟨R2, T2, ty2, rfl, hin2, tk2, q_1_84, q_1_86, q_1_5, fun j hj => match j, hj with
  | 0, _ => rfl
  | 1, _ => rfl
  | 2, _ => rfl
  | n + 3, h => absurd h (by omega)⟩
theorem cs_Of_41 : hv_cs "BulletinOffice" 41 y_Kc_init b_Kc_init 1 none 0 := ⟨q_1_89, q_1_5, ⟨by decide, by decide⟩, by decide +kernel, Or.inr ⟨"BulletinOffice", List.mem_of_getElem? (i := 1) rfl⟩⟩
theorem q_1_103 : (Jvm.Cond.classLink "BulletinOffice" (42 : Nat) "java/util/ArrayList") ∈ hv_ws := wm (wc_1 (List.mem_of_getElem? (i := 103) rfl)) rfl
theorem nw_Of_42 : hv_nw "BulletinOffice" 42 7 3 [.null, .int 0, .int 0] := ⟨R7, T7, ty7, rfl, hin7, tk7, q_1_103, q_1_104, q_1_8, fun j hj => match j, hj with
  | 0, _ => rfl
  | 1, _ => rfl
  | 2, _ => rfl
  | n + 3, h => absurd h (by omega)⟩
theorem q_1_105 : (Jvm.Cond.methodLink "BulletinOffice" (44 : Nat) ({ cls := "java/util/ArrayList", name := "<init>", desc := "()V" } : Jvm.MethodName)) ∈ hv_ws := wm (wc_1 (List.mem_of_getElem? (i := 105) rfl)) rfl
theorem cs_Of_44 : hv_cs "BulletinOffice" 44 y_Al_init b_Al_init 1 none 0 := ⟨q_1_107, q_1_8, ⟨by decide, by decide⟩, by decide +kernel, Or.inl q_1_105⟩
theorem q_1_129 : (Jvm.Cond.classLink "BulletinOffice" (49 : Nat) "BulletinOffice$Receiver") ∈ hv_ws := wm (wc_1 (List.mem_of_getElem? (i := 129) rfl)) rfl
theorem q_1_177 : (Jvm.Cond.fieldLink "BulletinOffice" (51 : Nat) "BulletinOffice" "receivers" "[LBulletinOffice$Receiver;") ∈ hv_ws := wm (wc_1 (List.mem_of_getElem? (i := 177) rfl)) rfl
theorem fa_Of_51 : hv_fa "BulletinOffice" 51 5 6 := ⟨R5, T5, 7, "BulletinOffice", rfl, hin5, by decide, Or.inl q_1_177, Or.inl rfl⟩
theorem q_1_131 : (Jvm.Cond.instantiable "BulletinOffice$Receiver" (8 : Nat)) ∈ hv_ws := wm (wc_1 (List.mem_of_getElem? (i := 131) rfl)) rfl
theorem q_1_9 : (Jvm.Cond.initialized "BulletinOffice$Receiver") ∈ hv_ws := wm (wc_1 (List.mem_of_getElem? (i := 9) rfl)) rfl
theorem nw_Of_49 : hv_nw "BulletinOffice" 49 4 8 [.null, .null, .null, .null, .null, .null, .int 0, .int 0] := ⟨R4, T4, ty4, rfl, hin4, tk4, q_1_129, q_1_131, q_1_9, fun j hj => match j, hj with
  | 0, _ => rfl
  | 1, _ => rfl
  | 2, _ => rfl
  | 3, _ => rfl
  | 4, _ => rfl
  | 5, _ => rfl
  | 6, _ => rfl
  | 7, _ => rfl
  | n + 8, h => absurd h (by omega)⟩
theorem q_1_171 : (Jvm.Cond.fieldLink "BulletinOffice" (18 : Nat) "BulletinOffice" "clock" "LBulletinOffice$Clock;") ∈ hv_ws := wm (wc_1 (List.mem_of_getElem? (i := 171) rfl)) rfl
theorem fa_Of_18 : hv_fa "BulletinOffice" 18 5 0 := ⟨R5, T5, 7, "BulletinOffice", rfl, hin5, by decide, Or.inl q_1_171, Or.inl rfl⟩
theorem q_1_172 : (Jvm.Cond.fieldLink "BulletinOffice" (27 : Nat) "BulletinOffice" "sealer" "LBulletinOffice$Sealer;") ∈ hv_ws := wm (wc_1 (List.mem_of_getElem? (i := 172) rfl)) rfl
theorem fa_Of_27 : hv_fa "BulletinOffice" 27 5 1 := ⟨R5, T5, 7, "BulletinOffice", rfl, hin5, by decide, Or.inl q_1_172, Or.inl rfl⟩
theorem q_1_134 : (Jvm.Cond.code ({ cls := "BulletinOffice$Receiver", name := "<init>", desc := "(LBulletinOffice$Clock;LBulletinOffice$Sealer;)V" } : Jvm.MethodName) prog_5_method_1_code (4 : Nat) (Option.none : Option Jvm.ClassFile.FieldType)) ∈ hv_ws := wm (wc_1 (List.mem_of_getElem? (i := 134) rfl)) rfl
theorem q_1_132 : (Jvm.Cond.methodLink "BulletinOffice" (55 : Nat) ({ cls := "BulletinOffice$Receiver", name := "<init>", desc := "(LBulletinOffice$Clock;LBulletinOffice$Sealer;)V" } : Jvm.MethodName)) ∈ hv_ws := wm (wc_1 (List.mem_of_getElem? (i := 132) rfl)) rfl
theorem cs_Of_55 : hv_cs "BulletinOffice" 55 y_Rc_init b_Rc_init 4 none 2 := ⟨q_1_134, q_1_9, ⟨by decide, by decide⟩, by decide +kernel, Or.inl q_1_132⟩
theorem q_1_133 : (Jvm.Cond.instanceMethod ({ cls := "BulletinOffice$Receiver", name := "<init>", desc := "(LBulletinOffice$Clock;LBulletinOffice$Sealer;)V" } : Jvm.MethodName)) ∈ hv_ws := wm (wc_1 (List.mem_of_getElem? (i := 133) rfl)) rfl
theorem fp_Of_51 : hv_fp "BulletinOffice" 51 5 6 (.array (.object "BulletinOffice$Receiver")) true := ⟨R5, T5, 7, "BulletinOffice", ty5, rfl, hin5, by decide, Or.inl q_1_177, Or.inl rfl, tk5, nm5, rfl, (fun _ => rfl), tk5 6 (by decide)⟩
theorem q_1_176 : (Jvm.Cond.fieldLink "BulletinOffice" (45 : Nat) "BulletinOffice" "packets" "Ljava/util/ArrayList;") ∈ hv_ws := wm (wc_1 (List.mem_of_getElem? (i := 176) rfl)) rfl
theorem fp_Of_45 : hv_fp "BulletinOffice" 45 5 5 (.object "java/util/ArrayList") true := ⟨R5, T5, 7, "BulletinOffice", ty5, rfl, hin5, by decide, Or.inl q_1_176, Or.inl rfl, tk5, nm5, rfl, (fun _ => rfl), tk5 5 (by decide)⟩
theorem fp_Of_37 : hv_fp "BulletinOffice" 37 5 3 (.array (.object "BulletinOffice$KeyChain")) true := ⟨R5, T5, 7, "BulletinOffice", ty5, rfl, hin5, by decide, Or.inl q_1_174, Or.inl rfl, tk5, nm5, rfl, (fun _ => rfl), tk5 3 (by decide)⟩
theorem q_1_173 : (Jvm.Cond.fieldLink "BulletinOffice" (31 : Nat) "BulletinOffice" "buffer" "[I") ∈ hv_ws := wm (wc_1 (List.mem_of_getElem? (i := 173) rfl)) rfl
theorem fp_Of_31 : hv_fp "BulletinOffice" 31 5 2 (.array (.int)) true := ⟨R5, T5, 7, "BulletinOffice", ty5, rfl, hin5, by decide, Or.inl q_1_173, Or.inl rfl, tk5, nm5, rfl, (fun _ => rfl), tk5 2 (by decide)⟩
theorem fp_Of_27 : hv_fp "BulletinOffice" 27 5 1 (.object "BulletinOffice$Sealer") true := ⟨R5, T5, 7, "BulletinOffice", ty5, rfl, hin5, by decide, Or.inl q_1_172, Or.inl rfl, tk5, nm5, rfl, (fun _ => rfl), tk5 1 (by decide)⟩
theorem fp_Of_18 : hv_fp "BulletinOffice" 18 5 0 (.object "BulletinOffice$Clock") true := ⟨R5, T5, 7, "BulletinOffice", ty5, rfl, hin5, by decide, Or.inl q_1_171, Or.inl rfl, tk5, nm5, rfl, (fun _ => rfl), tk5 0 (by decide)⟩
theorem q_1_29 : (Jvm.Cond.methodLink "BulletinOffice" (1 : Nat) ({ cls := "java/lang/Object", name := "<init>", desc := "()V" } : Jvm.MethodName)) ∈ hv_ws := wm (wc_1 (List.mem_of_getElem? (i := 29) rfl)) rfl
theorem q_1_47 : (Jvm.Cond.fieldLink "BulletinOffice" (77 : Nat) "BulletinOffice$Clock" "time" "I") ∈ hv_ws := wm (wc_1 (List.mem_of_getElem? (i := 47) rfl)) rfl
theorem fa_Of_77 : hv_fa "BulletinOffice" 77 0 3 := ⟨R0, T0, 4, "BulletinOffice$Clock", rfl, hin0, by decide, Or.inl q_1_47, Or.inl rfl⟩
theorem q_1_200 : (Jvm.Cond.code ({ cls := "BulletinOffice$Clock", name := "intervalAt", desc := "(I)I" } : Jvm.MethodName) prog_2_method_2_code (2 : Nat) (Option.some Jvm.ClassFile.FieldType.int)) ∈ hv_ws := wm (wc_1 (List.mem_of_getElem? (i := 200) rfl)) rfl
theorem q_1_197 : (Jvm.Cond.methodLink "BulletinOffice" (80 : Nat) ({ cls := "BulletinOffice$Clock", name := "intervalAt", desc := "(I)I" } : Jvm.MethodName)) ∈ hv_ws := wm (wc_1 (List.mem_of_getElem? (i := 197) rfl)) rfl
theorem cs_Of_80 : hv_cs "BulletinOffice" 80 y_Ck_intervalAt b_Ck_intervalAt 2 (some (.int)) 1 := ⟨q_1_200, q_1_2, ⟨by decide, by decide⟩, by decide +kernel, Or.inl q_1_197⟩
theorem q_1_198 : (Jvm.Cond.instanceMethod ({ cls := "BulletinOffice$Clock", name := "intervalAt", desc := "(I)I" } : Jvm.MethodName)) ∈ hv_ws := wm (wc_1 (List.mem_of_getElem? (i := 198) rfl)) rfl
theorem q_1_199 : (Jvm.Cond.selects "BulletinOffice$Clock" ({ cls := "BulletinOffice$Clock", name := "intervalAt", desc := "(I)I" } : Jvm.MethodName) ({ cls := "BulletinOffice$Clock", name := "intervalAt", desc := "(I)I" } : Jvm.MethodName)) ∈ hv_ws := wm (wc_1 (List.mem_of_getElem? (i := 199) rfl)) rfl
theorem q_1_175 : (Jvm.Cond.fieldLink "BulletinOffice" (58 : Nat) "BulletinOffice" "chainCount" "I") ∈ hv_ws := wm (wc_1 (List.mem_of_getElem? (i := 175) rfl)) rfl
theorem fa_Of_58 : hv_fa "BulletinOffice" 58 5 4 := ⟨R5, T5, 7, "BulletinOffice", rfl, hin5, by decide, Or.inl q_1_175, Or.inl rfl⟩
theorem fa_Of_45 : hv_fa "BulletinOffice" 45 5 5 := ⟨R5, T5, 7, "BulletinOffice", rfl, hin5, by decide, Or.inl q_1_176, Or.inl rfl⟩
theorem q_1_204 : (Jvm.Cond.code ({ cls := "java/util/ArrayList", name := "size", desc := "()I" } : Jvm.MethodName) prog_23_method_8_code (1 : Nat) (Option.some Jvm.ClassFile.FieldType.int)) ∈ hv_ws := wm (wc_1 (List.mem_of_getElem? (i := 204) rfl)) rfl
theorem q_1_201 : (Jvm.Cond.methodLink "BulletinOffice" (107 : Nat) ({ cls := "java/util/ArrayList", name := "size", desc := "()I" } : Jvm.MethodName)) ∈ hv_ws := wm (wc_1 (List.mem_of_getElem? (i := 201) rfl)) rfl
theorem cs_Of_107 : hv_cs "BulletinOffice" 107 y_Al_size b_Al_size 1 (some (.int)) 0 := ⟨q_1_204, q_1_8, ⟨by decide, by decide⟩, by decide +kernel, Or.inl q_1_201⟩
theorem q_1_202 : (Jvm.Cond.instanceMethod ({ cls := "java/util/ArrayList", name := "size", desc := "()I" } : Jvm.MethodName)) ∈ hv_ws := wm (wc_1 (List.mem_of_getElem? (i := 202) rfl)) rfl
theorem q_1_203 : (Jvm.Cond.selects "java/util/ArrayList" ({ cls := "java/util/ArrayList", name := "size", desc := "()I" } : Jvm.MethodName) ({ cls := "java/util/ArrayList", name := "size", desc := "()I" } : Jvm.MethodName)) ∈ hv_ws := wm (wc_1 (List.mem_of_getElem? (i := 203) rfl)) rfl
theorem q_2_194 : (Jvm.Cond.methodLink "BulletinOffice" (180 : Nat) ({ cls := "BulletinOffice$Packet", name := "interval", desc := "()I" } : Jvm.MethodName)) ∈ hv_ws := wm (wc_2 (List.mem_of_getElem? (i := 194) rfl)) rfl
theorem cs_Of_180 : hv_cs "BulletinOffice" 180 y_Pk_interval b_Pk_interval 1 (some (.int)) 0 := ⟨q_2_197, q_1_20, ⟨by decide, by decide⟩, by decide +kernel, Or.inl q_2_194⟩
theorem q_2_161 : (Jvm.Cond.code ({ cls := "BulletinOffice", name := "chainOf", desc := "(I)I" } : Jvm.MethodName) prog_1_method_21_code (1 : Nat) (Option.some Jvm.ClassFile.FieldType.int)) ∈ hv_ws := wm (wc_2 (List.mem_of_getElem? (i := 161) rfl)) rfl
theorem q_2_159 : (Jvm.Cond.methodLink "BulletinOffice" (104 : Nat) ({ cls := "BulletinOffice", name := "chainOf", desc := "(I)I" } : Jvm.MethodName)) ∈ hv_ws := wm (wc_2 (List.mem_of_getElem? (i := 159) rfl)) rfl
theorem cs_Of_104 : hv_cs "BulletinOffice" 104 y_Of_chainOf b_Of_chainOf 1 (some (.int)) 1 := ⟨q_2_161, q_1_1, ⟨by decide, by decide⟩, by decide +kernel, Or.inl q_2_159⟩
theorem q_2_160 : (Jvm.Cond.static ({ cls := "BulletinOffice", name := "chainOf", desc := "(I)I" } : Jvm.MethodName)) ∈ hv_ws := wm (wc_2 (List.mem_of_getElem? (i := 160) rfl)) rfl
theorem q_2_203 : (Jvm.Cond.code ({ cls := "BulletinOffice", name := "numberInChain", desc := "(I)I" } : Jvm.MethodName) prog_1_method_22_code (1 : Nat) (Option.some Jvm.ClassFile.FieldType.int)) ∈ hv_ws := wm (wc_2 (List.mem_of_getElem? (i := 203) rfl)) rfl
theorem q_2_201 : (Jvm.Cond.methodLink "BulletinOffice" (187 : Nat) ({ cls := "BulletinOffice", name := "numberInChain", desc := "(I)I" } : Jvm.MethodName)) ∈ hv_ws := wm (wc_2 (List.mem_of_getElem? (i := 201) rfl)) rfl
theorem cs_Of_187 : hv_cs "BulletinOffice" 187 y_Of_numberInChain b_Of_numberInChain 1 (some (.int)) 1 := ⟨q_2_203, q_1_1, ⟨by decide, by decide⟩, by decide +kernel, Or.inl q_2_201⟩
theorem q_2_202 : (Jvm.Cond.static ({ cls := "BulletinOffice", name := "numberInChain", desc := "(I)I" } : Jvm.MethodName)) ∈ hv_ws := wm (wc_2 (List.mem_of_getElem? (i := 202) rfl)) rfl
theorem q_2_207 : (Jvm.Cond.code ({ cls := "BulletinOffice$KeyChain", name := "sealPacket", desc := "(ILBulletinOffice$Packet;LBulletinOffice$Sealer;)V" } : Jvm.MethodName) prog_3_method_13_code (4 : Nat) (Option.none : Option Jvm.ClassFile.FieldType)) ∈ hv_ws := wm (wc_2 (List.mem_of_getElem? (i := 207) rfl)) rfl
theorem q_2_204 : (Jvm.Cond.methodLink "BulletinOffice" (190 : Nat) ({ cls := "BulletinOffice$KeyChain", name := "sealPacket", desc := "(ILBulletinOffice$Packet;LBulletinOffice$Sealer;)V" } : Jvm.MethodName)) ∈ hv_ws := wm (wc_2 (List.mem_of_getElem? (i := 204) rfl)) rfl
theorem cs_Of_190 : hv_cs "BulletinOffice" 190 y_Kc_sealPacket b_Kc_sealPacket 4 none 3 := ⟨q_2_207, q_1_5, ⟨by decide, by decide⟩, by decide +kernel, Or.inl q_2_204⟩
theorem q_2_205 : (Jvm.Cond.instanceMethod ({ cls := "BulletinOffice$KeyChain", name := "sealPacket", desc := "(ILBulletinOffice$Packet;LBulletinOffice$Sealer;)V" } : Jvm.MethodName)) ∈ hv_ws := wm (wc_2 (List.mem_of_getElem? (i := 205) rfl)) rfl
theorem q_2_206 : (Jvm.Cond.selects "BulletinOffice$KeyChain" ({ cls := "BulletinOffice$KeyChain", name := "sealPacket", desc := "(ILBulletinOffice$Packet;LBulletinOffice$Sealer;)V" } : Jvm.MethodName) ({ cls := "BulletinOffice$KeyChain", name := "sealPacket", desc := "(ILBulletinOffice$Packet;LBulletinOffice$Sealer;)V" } : Jvm.MethodName)) ∈ hv_ws := wm (wc_2 (List.mem_of_getElem? (i := 206) rfl)) rfl
theorem q_1_65 : (Jvm.Cond.fieldLink "BulletinOffice" (101 : Nat) "BulletinOffice$Sealer" "result" "[I") ∈ hv_ws := wm (wc_1 (List.mem_of_getElem? (i := 65) rfl)) rfl
theorem fa_Of_101 : hv_fa "BulletinOffice" 101 1 0 := ⟨R1, T1, 5, "BulletinOffice$Sealer", rfl, hin1, by decide, Or.inl q_1_65, Or.inl rfl⟩
theorem q_2_221 : (Jvm.Cond.code ({ cls := "BulletinOffice$Packet", name := "writeCode", desc := "([I)V" } : Jvm.MethodName) prog_4_method_9_code (3 : Nat) (Option.none : Option Jvm.ClassFile.FieldType)) ∈ hv_ws := wm (wc_2 (List.mem_of_getElem? (i := 221) rfl)) rfl
theorem q_2_218 : (Jvm.Cond.methodLink "BulletinOffice" (194 : Nat) ({ cls := "BulletinOffice$Packet", name := "writeCode", desc := "([I)V" } : Jvm.MethodName)) ∈ hv_ws := wm (wc_2 (List.mem_of_getElem? (i := 218) rfl)) rfl
theorem cs_Of_194 : hv_cs "BulletinOffice" 194 y_Pk_writeCode b_Pk_writeCode 3 none 1 := ⟨q_2_221, q_1_20, ⟨by decide, by decide⟩, by decide +kernel, Or.inl q_2_218⟩
theorem q_2_219 : (Jvm.Cond.instanceMethod ({ cls := "BulletinOffice$Packet", name := "writeCode", desc := "([I)V" } : Jvm.MethodName)) ∈ hv_ws := wm (wc_2 (List.mem_of_getElem? (i := 219) rfl)) rfl
theorem q_2_220 : (Jvm.Cond.selects "BulletinOffice$Packet" ({ cls := "BulletinOffice$Packet", name := "writeCode", desc := "([I)V" } : Jvm.MethodName) ({ cls := "BulletinOffice$Packet", name := "writeCode", desc := "([I)V" } : Jvm.MethodName)) ∈ hv_ws := wm (wc_2 (List.mem_of_getElem? (i := 220) rfl)) rfl
theorem q_1_43 : (Jvm.Cond.fieldLink "BulletinOffice" (198 : Nat) "BulletinOffice$Clock" "lag" "I") ∈ hv_ws := wm (wc_1 (List.mem_of_getElem? (i := 43) rfl)) rfl
theorem fa_Of_198 : hv_fa "BulletinOffice" 198 0 0 := ⟨R0, T0, 4, "BulletinOffice$Clock", rfl, hin0, by decide, Or.inl q_1_43, Or.inl rfl⟩
theorem q_3_0 : (Jvm.Cond.code ({ cls := "java/util/ArrayList", name := "add", desc := "(Ljava/lang/Object;)Z" } : Jvm.MethodName) prog_23_method_25_code (2 : Nat) (Option.some Jvm.ClassFile.FieldType.boolean)) ∈ hv_ws := wm (wc_3 (List.mem_of_getElem? (i := 0) rfl)) rfl
theorem q_2_237 : (Jvm.Cond.methodLink "BulletinOffice" (204 : Nat) ({ cls := "java/util/ArrayList", name := "add", desc := "(Ljava/lang/Object;)Z" } : Jvm.MethodName)) ∈ hv_ws := wm (wc_2 (List.mem_of_getElem? (i := 237) rfl)) rfl
theorem cs_Of_204 : hv_cs "BulletinOffice" 204 y_Al_add1 b_Al_add1 2 (some (.boolean)) 1 := ⟨q_3_0, q_1_8, ⟨by decide, by decide⟩, by decide +kernel, Or.inl q_2_237⟩
theorem q_2_238 : (Jvm.Cond.instanceMethod ({ cls := "java/util/ArrayList", name := "add", desc := "(Ljava/lang/Object;)Z" } : Jvm.MethodName)) ∈ hv_ws := wm (wc_2 (List.mem_of_getElem? (i := 238) rfl)) rfl
theorem q_2_239 : (Jvm.Cond.selects "java/util/ArrayList" ({ cls := "java/util/ArrayList", name := "add", desc := "(Ljava/lang/Object;)Z" } : Jvm.MethodName) ({ cls := "java/util/ArrayList", name := "add", desc := "(Ljava/lang/Object;)Z" } : Jvm.MethodName)) ∈ hv_ws := wm (wc_2 (List.mem_of_getElem? (i := 239) rfl)) rfl
theorem q_2_185 : (Jvm.Cond.fieldLink "BulletinOffice" (117 : Nat) "BulletinOffice$Packet" "bytes" "[I") ∈ hv_ws := wm (wc_2 (List.mem_of_getElem? (i := 185) rfl)) rfl
theorem fa_Of_117 : hv_fa "BulletinOffice" 117 3 0 := ⟨R3, T3, 1, "BulletinOffice$Packet", rfl, hin3, by decide, Or.inl q_2_185, Or.inl rfl⟩
theorem q_2_227 : (Jvm.Cond.code ({ cls := "BulletinOffice$Packet", name := "shownAt", desc := "()I" } : Jvm.MethodName) prog_4_method_7_code (1 : Nat) (Option.some Jvm.ClassFile.FieldType.int)) ∈ hv_ws := wm (wc_2 (List.mem_of_getElem? (i := 227) rfl)) rfl
theorem q_2_224 : (Jvm.Cond.methodLink "BulletinOffice" (201 : Nat) ({ cls := "BulletinOffice$Packet", name := "shownAt", desc := "()I" } : Jvm.MethodName)) ∈ hv_ws := wm (wc_2 (List.mem_of_getElem? (i := 224) rfl)) rfl
theorem cs_Of_201 : hv_cs "BulletinOffice" 201 y_Pk_shownAt b_Pk_shownAt 1 (some (.int)) 0 := ⟨q_2_227, q_1_20, ⟨by decide, by decide⟩, by decide +kernel, Or.inl q_2_224⟩
theorem q_2_225 : (Jvm.Cond.instanceMethod ({ cls := "BulletinOffice$Packet", name := "shownAt", desc := "()I" } : Jvm.MethodName)) ∈ hv_ws := wm (wc_2 (List.mem_of_getElem? (i := 225) rfl)) rfl
theorem q_2_226 : (Jvm.Cond.selects "BulletinOffice$Packet" ({ cls := "BulletinOffice$Packet", name := "shownAt", desc := "()I" } : Jvm.MethodName) ({ cls := "BulletinOffice$Packet", name := "shownAt", desc := "()I" } : Jvm.MethodName)) ∈ hv_ws := wm (wc_2 (List.mem_of_getElem? (i := 226) rfl)) rfl
theorem q_2_231 : (Jvm.Cond.code ({ cls := "BulletinOffice$KeyChain", name := "writeKey", desc := "(I[II)V" } : Jvm.MethodName) prog_3_method_7_code (5 : Nat) (Option.none : Option Jvm.ClassFile.FieldType)) ∈ hv_ws := wm (wc_2 (List.mem_of_getElem? (i := 231) rfl)) rfl
theorem q_2_228 : (Jvm.Cond.methodLink "BulletinOffice" (124 : Nat) ({ cls := "BulletinOffice$KeyChain", name := "writeKey", desc := "(I[II)V" } : Jvm.MethodName)) ∈ hv_ws := wm (wc_2 (List.mem_of_getElem? (i := 228) rfl)) rfl
theorem cs_Of_124 : hv_cs "BulletinOffice" 124 y_Kc_writeKey b_Kc_writeKey 5 none 3 := ⟨q_2_231, q_1_5, ⟨by decide, by decide⟩, by decide +kernel, Or.inl q_2_228⟩
theorem q_2_229 : (Jvm.Cond.instanceMethod ({ cls := "BulletinOffice$KeyChain", name := "writeKey", desc := "(I[II)V" } : Jvm.MethodName)) ∈ hv_ws := wm (wc_2 (List.mem_of_getElem? (i := 229) rfl)) rfl
theorem q_2_230 : (Jvm.Cond.selects "BulletinOffice$KeyChain" ({ cls := "BulletinOffice$KeyChain", name := "writeKey", desc := "(I[II)V" } : Jvm.MethodName) ({ cls := "BulletinOffice$KeyChain", name := "writeKey", desc := "(I[II)V" } : Jvm.MethodName)) ∈ hv_ws := wm (wc_2 (List.mem_of_getElem? (i := 230) rfl)) rfl
theorem q_3_75 : (Jvm.Cond.code ({ cls := "java/util/ArrayList", name := "get", desc := "(I)Ljava/lang/Object;" } : Jvm.MethodName) prog_23_method_20_code (2 : Nat) (Option.some (Jvm.ClassFile.FieldType.object "java/lang/Object"))) ∈ hv_ws := wm (wc_3 (List.mem_of_getElem? (i := 75) rfl)) rfl
theorem q_3_72 : (Jvm.Cond.methodLink "BulletinOffice" (132 : Nat) ({ cls := "java/util/ArrayList", name := "get", desc := "(I)Ljava/lang/Object;" } : Jvm.MethodName)) ∈ hv_ws := wm (wc_3 (List.mem_of_getElem? (i := 72) rfl)) rfl
theorem cs_Of_132 : hv_cs "BulletinOffice" 132 y_Al_get b_Al_get 2 (some (.object "java/lang/Object")) 1 := ⟨q_3_75, q_1_8, ⟨by decide, by decide⟩, by decide +kernel, Or.inl q_3_72⟩
theorem q_3_73 : (Jvm.Cond.instanceMethod ({ cls := "java/util/ArrayList", name := "get", desc := "(I)Ljava/lang/Object;" } : Jvm.MethodName)) ∈ hv_ws := wm (wc_3 (List.mem_of_getElem? (i := 73) rfl)) rfl
theorem q_3_74 : (Jvm.Cond.selects "java/util/ArrayList" ({ cls := "java/util/ArrayList", name := "get", desc := "(I)Ljava/lang/Object;" } : Jvm.MethodName) ({ cls := "java/util/ArrayList", name := "get", desc := "(I)Ljava/lang/Object;" } : Jvm.MethodName)) ∈ hv_ws := wm (wc_3 (List.mem_of_getElem? (i := 74) rfl)) rfl
theorem q_2_177 : (Jvm.Cond.classLink "BulletinOffice" (114 : Nat) "BulletinOffice$Packet") ∈ hv_ws := wm (wc_2 (List.mem_of_getElem? (i := 177) rfl)) rfl
theorem q_3_104 : (Jvm.Cond.code ({ cls := "BulletinOffice", name := "isReceiver", desc := "(I)Z" } : Jvm.MethodName) prog_1_method_19_code (2 : Nat) (Option.some Jvm.ClassFile.FieldType.boolean)) ∈ hv_ws := wm (wc_3 (List.mem_of_getElem? (i := 104) rfl)) rfl
theorem q_3_101 : (Jvm.Cond.methodLink "BulletinOffice" (139 : Nat) ({ cls := "BulletinOffice", name := "isReceiver", desc := "(I)Z" } : Jvm.MethodName)) ∈ hv_ws := wm (wc_3 (List.mem_of_getElem? (i := 101) rfl)) rfl
theorem cs_Of_139 : hv_cs "BulletinOffice" 139 y_Of_isReceiver b_Of_isReceiver 2 (some (.boolean)) 1 := ⟨q_3_104, q_1_1, ⟨by decide, by decide⟩, by decide +kernel, Or.inl q_3_101⟩
theorem q_3_103 : (Jvm.Cond.instanceMethod ({ cls := "BulletinOffice", name := "isReceiver", desc := "(I)Z" } : Jvm.MethodName)) ∈ hv_ws := wm (wc_3 (List.mem_of_getElem? (i := 103) rfl)) rfl
theorem qs_Of_isReceiver : Cond.selects y_Of_isReceiver.cls y_Of_isReceiver y_Of_isReceiver ∈ hv_ws := wp (q := (y_Of_isReceiver, 7)) (List.mem_append_left _ (List.mem_of_getElem? (i := 9) rfl)) rfl
theorem q_1_147 : (Jvm.Cond.fieldLink "BulletinOffice" (177 : Nat) "BulletinOffice$Receiver" "kept" "Ljava/util/ArrayList;") ∈ hv_ws := wm (wc_1 (List.mem_of_getElem? (i := 147) rfl)) rfl
theorem fa_Of_177 : hv_fa "BulletinOffice" 177 4 4 := ⟨R4, T4, 8, "BulletinOffice$Receiver", rfl, hin4, by decide, Or.inl q_1_147, Or.inl rfl⟩
theorem q_3_112 : (Jvm.Cond.code ({ cls := "BulletinOffice$KeyChain", name := "forget", desc := "()V" } : Jvm.MethodName) prog_3_method_3_code (1 : Nat) (Option.none : Option Jvm.ClassFile.FieldType)) ∈ hv_ws := wm (wc_3 (List.mem_of_getElem? (i := 112) rfl)) rfl
theorem q_3_109 : (Jvm.Cond.methodLink "BulletinOffice$Receiver" (40 : Nat) ({ cls := "BulletinOffice$KeyChain", name := "forget", desc := "()V" } : Jvm.MethodName)) ∈ hv_ws := wm (wc_3 (List.mem_of_getElem? (i := 109) rfl)) rfl
theorem cs_Rc_40 : hv_cs "BulletinOffice$Receiver" 40 y_Kc_forget b_Kc_forget 1 none 0 := ⟨q_3_112, q_1_5, ⟨by decide, by decide⟩, by decide +kernel, Or.inl q_3_109⟩
theorem q_3_110 : (Jvm.Cond.instanceMethod ({ cls := "BulletinOffice$KeyChain", name := "forget", desc := "()V" } : Jvm.MethodName)) ∈ hv_ws := wm (wc_3 (List.mem_of_getElem? (i := 110) rfl)) rfl
theorem q_3_111 : (Jvm.Cond.selects "BulletinOffice$KeyChain" ({ cls := "BulletinOffice$KeyChain", name := "forget", desc := "()V" } : Jvm.MethodName) ({ cls := "BulletinOffice$KeyChain", name := "forget", desc := "()V" } : Jvm.MethodName)) ∈ hv_ws := wm (wc_3 (List.mem_of_getElem? (i := 111) rfl)) rfl
theorem fa_Rc_20 : hv_fa "BulletinOffice$Receiver" 20 4 3 := ⟨R4, T4, 8, "BulletinOffice$Receiver", rfl, hin4, by decide, Or.inl q_1_144, Or.inl rfl⟩
theorem q_3_116 : (Jvm.Cond.code ({ cls := "java/util/ArrayList", name := "clear", desc := "()V" } : Jvm.MethodName) prog_23_method_40_code (4 : Nat) (Option.none : Option Jvm.ClassFile.FieldType)) ∈ hv_ws := wm (wc_3 (List.mem_of_getElem? (i := 116) rfl)) rfl
theorem q_3_113 : (Jvm.Cond.methodLink "BulletinOffice$Receiver" (43 : Nat) ({ cls := "java/util/ArrayList", name := "clear", desc := "()V" } : Jvm.MethodName)) ∈ hv_ws := wm (wc_3 (List.mem_of_getElem? (i := 113) rfl)) rfl
theorem cs_Rc_43 : hv_cs "BulletinOffice$Receiver" 43 y_Al_clear b_Al_clear 4 none 0 := ⟨q_3_116, q_1_8, ⟨by decide, by decide⟩, by decide +kernel, Or.inl q_3_113⟩
theorem q_3_114 : (Jvm.Cond.instanceMethod ({ cls := "java/util/ArrayList", name := "clear", desc := "()V" } : Jvm.MethodName)) ∈ hv_ws := wm (wc_3 (List.mem_of_getElem? (i := 114) rfl)) rfl
theorem q_3_115 : (Jvm.Cond.selects "java/util/ArrayList" ({ cls := "java/util/ArrayList", name := "clear", desc := "()V" } : Jvm.MethodName) ({ cls := "java/util/ArrayList", name := "clear", desc := "()V" } : Jvm.MethodName)) ∈ hv_ws := wm (wc_3 (List.mem_of_getElem? (i := 115) rfl)) rfl
theorem fa_Rc_24 : hv_fa "BulletinOffice$Receiver" 24 4 4 := ⟨R4, T4, 8, "BulletinOffice$Receiver", rfl, hin4, by decide, Or.inl q_1_146, Or.inl rfl⟩
theorem fa_Rc_27 : hv_fa "BulletinOffice$Receiver" 27 4 5 := ⟨R4, T4, 8, "BulletinOffice$Receiver", rfl, hin4, by decide, Or.inl q_1_148, Or.inl rfl⟩
theorem q_3_117 : (Jvm.Cond.methodLink "BulletinOffice$Receiver" (46 : Nat) ({ cls := "java/util/Arrays", name := "fill", desc := "([II)V" } : Jvm.MethodName)) ∈ hv_ws := wm (wc_3 (List.mem_of_getElem? (i := 117) rfl)) rfl
theorem cs_Rc_46 : hv_cs "BulletinOffice$Receiver" 46 y_Ar_fill b_Ar_fill 4 none 2 := ⟨q_2_65, q_1_15, ⟨by decide, by decide⟩, by decide +kernel, Or.inl q_3_117⟩
theorem q_1_150 : (Jvm.Cond.fieldLink "BulletinOffice$Receiver" (52 : Nat) "BulletinOffice$Receiver" "releasedCount" "I") ∈ hv_ws := wm (wc_1 (List.mem_of_getElem? (i := 150) rfl)) rfl
theorem fp_Rc_52 : hv_fp "BulletinOffice$Receiver" 52 4 6 (.int) false := ⟨R4, T4, 8, "BulletinOffice$Receiver", ty4, rfl, hin4, by decide, Or.inl q_1_150, Or.inl rfl, tk4, nm4, rfl, (fun h => by cases h), tk4 6 (by decide)⟩
theorem q_3_169 : (Jvm.Cond.code ({ cls := "BulletinOffice$KeyChain", name := "isKnown", desc := "()Z" } : Jvm.MethodName) prog_3_method_2_code (1 : Nat) (Option.some Jvm.ClassFile.FieldType.boolean)) ∈ hv_ws := wm (wc_3 (List.mem_of_getElem? (i := 169) rfl)) rfl
theorem q_3_166 : (Jvm.Cond.methodLink "BulletinOffice$Receiver" (56 : Nat) ({ cls := "BulletinOffice$KeyChain", name := "isKnown", desc := "()Z" } : Jvm.MethodName)) ∈ hv_ws := wm (wc_3 (List.mem_of_getElem? (i := 166) rfl)) rfl
theorem cs_Rc_56 : hv_cs "BulletinOffice$Receiver" 56 y_Kc_isKnown b_Kc_isKnown 1 (some (.boolean)) 0 := ⟨q_3_169, q_1_5, ⟨by decide, by decide⟩, by decide +kernel, Or.inl q_3_166⟩
theorem q_3_167 : (Jvm.Cond.instanceMethod ({ cls := "BulletinOffice$KeyChain", name := "isKnown", desc := "()Z" } : Jvm.MethodName)) ∈ hv_ws := wm (wc_3 (List.mem_of_getElem? (i := 167) rfl)) rfl
theorem q_3_168 : (Jvm.Cond.selects "BulletinOffice$KeyChain" ({ cls := "BulletinOffice$KeyChain", name := "isKnown", desc := "()Z" } : Jvm.MethodName) ({ cls := "BulletinOffice$KeyChain", name := "isKnown", desc := "()Z" } : Jvm.MethodName)) ∈ hv_ws := wm (wc_3 (List.mem_of_getElem? (i := 168) rfl)) rfl
theorem q_1_95 : (Jvm.Cond.fieldLink "BulletinOffice$Receiver" (60 : Nat) "BulletinOffice$KeyChain" "latest" "I") ∈ hv_ws := wm (wc_1 (List.mem_of_getElem? (i := 95) rfl)) rfl
theorem fa_Rc_60 : hv_fa "BulletinOffice$Receiver" 60 2 2 := ⟨R2, T2, 3, "BulletinOffice$KeyChain", rfl, hin2, by decide, Or.inl q_1_95, Or.inl rfl⟩
theorem q_3_163 : (Jvm.Cond.methodLink "BulletinOffice$Receiver" (75 : Nat) ({ cls := "BulletinOffice$Packet", name := "interval", desc := "()I" } : Jvm.MethodName)) ∈ hv_ws := wm (wc_3 (List.mem_of_getElem? (i := 163) rfl)) rfl
theorem cs_Rc_75 : hv_cs "BulletinOffice$Receiver" 75 y_Pk_interval b_Pk_interval 1 (some (.int)) 0 := ⟨q_2_197, q_1_20, ⟨by decide, by decide⟩, by decide +kernel, Or.inl q_3_163⟩
theorem fa_Rc_31 : hv_fa "BulletinOffice$Receiver" 31 4 0 := ⟨R4, T4, 8, "BulletinOffice$Receiver", rfl, hin4, by decide, Or.inl q_1_140, Or.inl rfl⟩
theorem q_1_42 : (Jvm.Cond.fieldLink "BulletinOffice$Receiver" (102 : Nat) "BulletinOffice$Clock" "lag" "I") ∈ hv_ws := wm (wc_1 (List.mem_of_getElem? (i := 42) rfl)) rfl
theorem fa_Rc_102 : hv_fa "BulletinOffice$Receiver" 102 0 0 := ⟨R0, T0, 4, "BulletinOffice$Clock", rfl, hin0, by decide, Or.inl q_1_42, Or.inl rfl⟩
theorem cs_Rc_105 : hv_cs "BulletinOffice$Receiver" 105 y_Of_chainOf b_Of_chainOf 1 (some (.int)) 1 := ⟨q_2_161, q_1_1, ⟨by decide, by decide⟩, by decide +kernel, Or.inr ⟨"BulletinOffice", List.mem_of_getElem? (i := 6) rfl⟩⟩
theorem cs_Rc_109 : hv_cs "BulletinOffice$Receiver" 109 y_Of_numberInChain b_Of_numberInChain 1 (some (.int)) 1 := ⟨q_2_203, q_1_1, ⟨by decide, by decide⟩, by decide +kernel, Or.inr ⟨"BulletinOffice", List.mem_of_getElem? (i := 7) rfl⟩⟩
theorem q_1_93 : (Jvm.Cond.fieldLink "BulletinOffice$Receiver" (112 : Nat) "BulletinOffice$KeyChain" "first" "I") ∈ hv_ws := wm (wc_1 (List.mem_of_getElem? (i := 93) rfl)) rfl
theorem fa_Rc_112 : hv_fa "BulletinOffice$Receiver" 112 2 1 := ⟨R2, T2, 3, "BulletinOffice$KeyChain", rfl, hin2, by decide, Or.inl q_1_93, Or.inl rfl⟩
theorem q_2_184 : (Jvm.Cond.fieldLink "BulletinOffice$Receiver" (115 : Nat) "BulletinOffice$Packet" "bytes" "[I") ∈ hv_ws := wm (wc_2 (List.mem_of_getElem? (i := 184) rfl)) rfl
theorem fa_Rc_115 : hv_fa "BulletinOffice$Receiver" 115 3 0 := ⟨R3, T3, 1, "BulletinOffice$Packet", rfl, hin3, by decide, Or.inl q_2_184, Or.inl rfl⟩
theorem q_3_170 : (Jvm.Cond.methodLink "BulletinOffice$Receiver" (118 : Nat) ({ cls := "BulletinOffice$Packet", name := "shownAt", desc := "()I" } : Jvm.MethodName)) ∈ hv_ws := wm (wc_3 (List.mem_of_getElem? (i := 170) rfl)) rfl
theorem cs_Rc_118 : hv_cs "BulletinOffice$Receiver" 118 y_Pk_shownAt b_Pk_shownAt 1 (some (.int)) 0 := ⟨q_2_227, q_1_20, ⟨by decide, by decide⟩, by decide +kernel, Or.inl q_3_170⟩
theorem q_3_175 : (Jvm.Cond.methodLink "BulletinOffice$Receiver" (125 : Nat) ({ cls := "BulletinOffice$KeyChain", name := "readKey", desc := "(I[II)V" } : Jvm.MethodName)) ∈ hv_ws := wm (wc_3 (List.mem_of_getElem? (i := 175) rfl)) rfl
theorem cs_Rc_125 : hv_cs "BulletinOffice$Receiver" 125 y_Kc_readKey b_Kc_readKey 5 none 3 := ⟨q_3_178, q_1_5, ⟨by decide, by decide⟩, by decide +kernel, Or.inl q_3_175⟩
theorem fa_Rc_35 : hv_fa "BulletinOffice$Receiver" 35 4 1 := ⟨R4, T4, 8, "BulletinOffice$Receiver", rfl, hin4, by decide, Or.inl q_1_141, Or.inl rfl⟩
theorem q_2_47 : (Jvm.Cond.code ({ cls := "BulletinOffice$KeyChain", name := "fillDown", desc := "(IILBulletinOffice$Sealer;)V" } : Jvm.MethodName) prog_3_method_5_code (5 : Nat) (Option.none : Option Jvm.ClassFile.FieldType)) ∈ hv_ws := wm (wc_2 (List.mem_of_getElem? (i := 47) rfl)) rfl
theorem q_3_180 : (Jvm.Cond.methodLink "BulletinOffice$Receiver" (129 : Nat) ({ cls := "BulletinOffice$KeyChain", name := "fillDown", desc := "(IILBulletinOffice$Sealer;)V" } : Jvm.MethodName)) ∈ hv_ws := wm (wc_3 (List.mem_of_getElem? (i := 180) rfl)) rfl
theorem cs_Rc_129 : hv_cs "BulletinOffice$Receiver" 129 y_Kc_fillDown b_Kc_fillDown 5 none 3 := ⟨q_2_47, q_1_5, ⟨by decide, by decide⟩, by decide +kernel, Or.inl q_3_180⟩
theorem q_2_45 : (Jvm.Cond.instanceMethod ({ cls := "BulletinOffice$KeyChain", name := "fillDown", desc := "(IILBulletinOffice$Sealer;)V" } : Jvm.MethodName)) ∈ hv_ws := wm (wc_2 (List.mem_of_getElem? (i := 45) rfl)) rfl
theorem q_2_46 : (Jvm.Cond.selects "BulletinOffice$KeyChain" ({ cls := "BulletinOffice$KeyChain", name := "fillDown", desc := "(IILBulletinOffice$Sealer;)V" } : Jvm.MethodName) ({ cls := "BulletinOffice$KeyChain", name := "fillDown", desc := "(IILBulletinOffice$Sealer;)V" } : Jvm.MethodName)) ∈ hv_ws := wm (wc_2 (List.mem_of_getElem? (i := 46) rfl)) rfl
theorem q_3_184 : (Jvm.Cond.code ({ cls := "BulletinOffice$KeyChain", name := "raiseTo", desc := "(ILBulletinOffice$Sealer;)Z" } : Jvm.MethodName) prog_3_method_12_code (5 : Nat) (Option.some Jvm.ClassFile.FieldType.boolean)) ∈ hv_ws := wm (wc_3 (List.mem_of_getElem? (i := 184) rfl)) rfl
theorem q_3_181 : (Jvm.Cond.methodLink "BulletinOffice$Receiver" (133 : Nat) ({ cls := "BulletinOffice$KeyChain", name := "raiseTo", desc := "(ILBulletinOffice$Sealer;)Z" } : Jvm.MethodName)) ∈ hv_ws := wm (wc_3 (List.mem_of_getElem? (i := 181) rfl)) rfl
theorem cs_Rc_133 : hv_cs "BulletinOffice$Receiver" 133 y_Kc_raiseTo b_Kc_raiseTo 5 (some (.boolean)) 2 := ⟨q_3_184, q_1_5, ⟨by decide, by decide⟩, by decide +kernel, Or.inl q_3_181⟩
theorem q_3_182 : (Jvm.Cond.instanceMethod ({ cls := "BulletinOffice$KeyChain", name := "raiseTo", desc := "(ILBulletinOffice$Sealer;)Z" } : Jvm.MethodName)) ∈ hv_ws := wm (wc_3 (List.mem_of_getElem? (i := 182) rfl)) rfl
theorem q_3_183 : (Jvm.Cond.selects "BulletinOffice$KeyChain" ({ cls := "BulletinOffice$KeyChain", name := "raiseTo", desc := "(ILBulletinOffice$Sealer;)Z" } : Jvm.MethodName) ({ cls := "BulletinOffice$KeyChain", name := "raiseTo", desc := "(ILBulletinOffice$Sealer;)Z" } : Jvm.MethodName)) ∈ hv_ws := wm (wc_3 (List.mem_of_getElem? (i := 183) rfl)) rfl
theorem q_3_174 : (Jvm.Cond.code ({ cls := "BulletinOffice$KeyChain", name := "isKey", desc := "(I[II)Z" } : Jvm.MethodName) prog_3_method_10_code (5 : Nat) (Option.some Jvm.ClassFile.FieldType.boolean)) ∈ hv_ws := wm (wc_3 (List.mem_of_getElem? (i := 174) rfl)) rfl
theorem q_3_171 : (Jvm.Cond.methodLink "BulletinOffice$Receiver" (121 : Nat) ({ cls := "BulletinOffice$KeyChain", name := "isKey", desc := "(I[II)Z" } : Jvm.MethodName)) ∈ hv_ws := wm (wc_3 (List.mem_of_getElem? (i := 171) rfl)) rfl
theorem cs_Rc_121 : hv_cs "BulletinOffice$Receiver" 121 y_Kc_isKey b_Kc_isKey 5 (some (.boolean)) 3 := ⟨q_3_174, q_1_5, ⟨by decide, by decide⟩, by decide +kernel, Or.inl q_3_171⟩
theorem q_3_172 : (Jvm.Cond.instanceMethod ({ cls := "BulletinOffice$KeyChain", name := "isKey", desc := "(I[II)Z" } : Jvm.MethodName)) ∈ hv_ws := wm (wc_3 (List.mem_of_getElem? (i := 172) rfl)) rfl
theorem q_3_173 : (Jvm.Cond.selects "BulletinOffice$KeyChain" ({ cls := "BulletinOffice$KeyChain", name := "isKey", desc := "(I[II)Z" } : Jvm.MethodName) ({ cls := "BulletinOffice$KeyChain", name := "isKey", desc := "(I[II)Z" } : Jvm.MethodName)) ∈ hv_ws := wm (wc_3 (List.mem_of_getElem? (i := 173) rfl)) rfl
theorem q_3_193 : (Jvm.Cond.methodLink "BulletinOffice$Receiver" (95 : Nat) ({ cls := "java/util/ArrayList", name := "size", desc := "()I" } : Jvm.MethodName)) ∈ hv_ws := wm (wc_3 (List.mem_of_getElem? (i := 193) rfl)) rfl
theorem cs_Rc_95 : hv_cs "BulletinOffice$Receiver" 95 y_Al_size b_Al_size 1 (some (.int)) 0 := ⟨q_1_204, q_1_8, ⟨by decide, by decide⟩, by decide +kernel, Or.inl q_3_193⟩
theorem q_3_194 : (Jvm.Cond.methodLink "BulletinOffice$Receiver" (137 : Nat) ({ cls := "java/util/ArrayList", name := "get", desc := "(I)Ljava/lang/Object;" } : Jvm.MethodName)) ∈ hv_ws := wm (wc_3 (List.mem_of_getElem? (i := 194) rfl)) rfl
theorem cs_Rc_137 : hv_cs "BulletinOffice$Receiver" 137 y_Al_get b_Al_get 2 (some (.object "java/lang/Object")) 1 := ⟨q_3_75, q_1_8, ⟨by decide, by decide⟩, by decide +kernel, Or.inl q_3_194⟩
theorem q_3_195 : (Jvm.Cond.classLink "BulletinOffice$Receiver" (64 : Nat) "BulletinOffice$Packet") ∈ hv_ws := wm (wc_3 (List.mem_of_getElem? (i := 195) rfl)) rfl
theorem q_3_236 : (Jvm.Cond.code ({ cls := "BulletinOffice$Packet", name := "isTwinOf", desc := "(LBulletinOffice$Packet;)Z" } : Jvm.MethodName) prog_4_method_11_code (3 : Nat) (Option.some Jvm.ClassFile.FieldType.boolean)) ∈ hv_ws := wm (wc_3 (List.mem_of_getElem? (i := 236) rfl)) rfl
theorem q_3_233 : (Jvm.Cond.methodLink "BulletinOffice$Receiver" (141 : Nat) ({ cls := "BulletinOffice$Packet", name := "isTwinOf", desc := "(LBulletinOffice$Packet;)Z" } : Jvm.MethodName)) ∈ hv_ws := wm (wc_3 (List.mem_of_getElem? (i := 233) rfl)) rfl
theorem cs_Rc_141 : hv_cs "BulletinOffice$Receiver" 141 y_Pk_isTwinOf b_Pk_isTwinOf 3 (some (.boolean)) 1 := ⟨q_3_236, q_1_20, ⟨by decide, by decide⟩, by decide +kernel, Or.inl q_3_233⟩
theorem q_3_234 : (Jvm.Cond.instanceMethod ({ cls := "BulletinOffice$Packet", name := "isTwinOf", desc := "(LBulletinOffice$Packet;)Z" } : Jvm.MethodName)) ∈ hv_ws := wm (wc_3 (List.mem_of_getElem? (i := 234) rfl)) rfl
theorem q_3_235 : (Jvm.Cond.selects "BulletinOffice$Packet" ({ cls := "BulletinOffice$Packet", name := "isTwinOf", desc := "(LBulletinOffice$Packet;)Z" } : Jvm.MethodName) ({ cls := "BulletinOffice$Packet", name := "isTwinOf", desc := "(LBulletinOffice$Packet;)Z" } : Jvm.MethodName)) ∈ hv_ws := wm (wc_3 (List.mem_of_getElem? (i := 235) rfl)) rfl
theorem q_3_199 : (Jvm.Cond.code ({ cls := "BulletinOffice$Receiver", name := "hasKeyFor", desc := "(I)Z" } : Jvm.MethodName) prog_5_method_6_code (2 : Nat) (Option.some Jvm.ClassFile.FieldType.boolean)) ∈ hv_ws := wm (wc_3 (List.mem_of_getElem? (i := 199) rfl)) rfl
theorem q_3_196 : (Jvm.Cond.methodLink "BulletinOffice$Receiver" (88 : Nat) ({ cls := "BulletinOffice$Receiver", name := "hasKeyFor", desc := "(I)Z" } : Jvm.MethodName)) ∈ hv_ws := wm (wc_3 (List.mem_of_getElem? (i := 196) rfl)) rfl
theorem cs_Rc_88 : hv_cs "BulletinOffice$Receiver" 88 y_Rc_hasKeyFor b_Rc_hasKeyFor 2 (some (.boolean)) 1 := ⟨q_3_199, q_1_9, ⟨by decide, by decide⟩, by decide +kernel, Or.inl q_3_196⟩
theorem q_3_198 : (Jvm.Cond.instanceMethod ({ cls := "BulletinOffice$Receiver", name := "hasKeyFor", desc := "(I)Z" } : Jvm.MethodName)) ∈ hv_ws := wm (wc_3 (List.mem_of_getElem? (i := 198) rfl)) rfl
theorem qs_Rc_hasKeyFor : Cond.selects y_Rc_hasKeyFor.cls y_Rc_hasKeyFor y_Rc_hasKeyFor ∈ hv_ws := wp (q := (y_Rc_hasKeyFor, 8)) (List.mem_append_left _ (List.mem_of_getElem? (i := 13) rfl)) rfl
theorem fa_Rc_52 : hv_fa "BulletinOffice$Receiver" 52 4 6 := ⟨R4, T4, 8, "BulletinOffice$Receiver", rfl, hin4, by decide, Or.inl q_1_150, Or.inl rfl⟩
theorem q_3_219 : (Jvm.Cond.methodLink "BulletinOffice$Receiver" (167 : Nat) ({ cls := "BulletinOffice$Packet", name := "kind", desc := "()I" } : Jvm.MethodName)) ∈ hv_ws := wm (wc_3 (List.mem_of_getElem? (i := 219) rfl)) rfl
theorem cs_Rc_167 : hv_cs "BulletinOffice$Receiver" 167 y_Pk_kind b_Pk_kind 1 (some (.int)) 0 := ⟨q_3_158, q_1_20, ⟨by decide, by decide⟩, by decide +kernel, Or.inl q_3_219⟩
theorem q_3_223 : (Jvm.Cond.code ({ cls := "BulletinOffice$KeyChain", name := "learnRoot", desc := "([II)V" } : Jvm.MethodName) prog_3_method_9_code (3 : Nat) (Option.none : Option Jvm.ClassFile.FieldType)) ∈ hv_ws := wm (wc_3 (List.mem_of_getElem? (i := 223) rfl)) rfl
theorem q_3_220 : (Jvm.Cond.methodLink "BulletinOffice$Receiver" (170 : Nat) ({ cls := "BulletinOffice$KeyChain", name := "learnRoot", desc := "([II)V" } : Jvm.MethodName)) ∈ hv_ws := wm (wc_3 (List.mem_of_getElem? (i := 220) rfl)) rfl
theorem cs_Rc_170 : hv_cs "BulletinOffice$Receiver" 170 y_Kc_learnRoot b_Kc_learnRoot 3 none 2 := ⟨q_3_223, q_1_5, ⟨by decide, by decide⟩, by decide +kernel, Or.inl q_3_220⟩
theorem q_3_221 : (Jvm.Cond.instanceMethod ({ cls := "BulletinOffice$KeyChain", name := "learnRoot", desc := "([II)V" } : Jvm.MethodName)) ∈ hv_ws := wm (wc_3 (List.mem_of_getElem? (i := 221) rfl)) rfl
theorem q_3_222 : (Jvm.Cond.selects "BulletinOffice$KeyChain" ({ cls := "BulletinOffice$KeyChain", name := "learnRoot", desc := "([II)V" } : Jvm.MethodName) ({ cls := "BulletinOffice$KeyChain", name := "learnRoot", desc := "([II)V" } : Jvm.MethodName)) ∈ hv_ws := wm (wc_3 (List.mem_of_getElem? (i := 222) rfl)) rfl
theorem q_3_218 : (Jvm.Cond.methodLink "BulletinOffice$Receiver" (98 : Nat) ({ cls := "java/util/ArrayList", name := "add", desc := "(Ljava/lang/Object;)Z" } : Jvm.MethodName)) ∈ hv_ws := wm (wc_3 (List.mem_of_getElem? (i := 218) rfl)) rfl
theorem cs_Rc_98 : hv_cs "BulletinOffice$Receiver" 98 y_Al_add1 b_Al_add1 2 (some (.boolean)) 1 := ⟨q_3_0, q_1_8, ⟨by decide, by decide⟩, by decide +kernel, Or.inl q_3_218⟩
theorem q_3_192 : (Jvm.Cond.code ({ cls := "BulletinOffice$Receiver", name := "nextToRelease", desc := "()I" } : Jvm.MethodName) prog_5_method_9_code (5 : Nat) (Option.some Jvm.ClassFile.FieldType.int)) ∈ hv_ws := wm (wc_3 (List.mem_of_getElem? (i := 192) rfl)) rfl
theorem q_3_189 : (Jvm.Cond.methodLink "BulletinOffice$Receiver" (144 : Nat) ({ cls := "BulletinOffice$Receiver", name := "nextToRelease", desc := "()I" } : Jvm.MethodName)) ∈ hv_ws := wm (wc_3 (List.mem_of_getElem? (i := 189) rfl)) rfl
theorem cs_Rc_144 : hv_cs "BulletinOffice$Receiver" 144 y_Rc_nextToRelease b_Rc_nextToRelease 5 (some (.int)) 0 := ⟨q_3_192, q_1_9, ⟨by decide, by decide⟩, by decide +kernel, Or.inl q_3_189⟩
theorem q_3_191 : (Jvm.Cond.instanceMethod ({ cls := "BulletinOffice$Receiver", name := "nextToRelease", desc := "()I" } : Jvm.MethodName)) ∈ hv_ws := wm (wc_3 (List.mem_of_getElem? (i := 191) rfl)) rfl
theorem qs_Rc_nextToRelease : Cond.selects y_Rc_nextToRelease.cls y_Rc_nextToRelease y_Rc_nextToRelease ∈ hv_ws := wp (q := (y_Rc_nextToRelease, 8)) (List.mem_append_left _ (List.mem_of_getElem? (i := 12) rfl)) rfl
theorem q_3_203 : (Jvm.Cond.code ({ cls := "java/util/ArrayList", name := "remove", desc := "(I)Ljava/lang/Object;" } : Jvm.MethodName) prog_23_method_29_code (4 : Nat) (Option.some (Jvm.ClassFile.FieldType.object "java/lang/Object"))) ∈ hv_ws := wm (wc_3 (List.mem_of_getElem? (i := 203) rfl)) rfl
theorem q_3_200 : (Jvm.Cond.methodLink "BulletinOffice$Receiver" (147 : Nat) ({ cls := "java/util/ArrayList", name := "remove", desc := "(I)Ljava/lang/Object;" } : Jvm.MethodName)) ∈ hv_ws := wm (wc_3 (List.mem_of_getElem? (i := 200) rfl)) rfl
theorem cs_Rc_147 : hv_cs "BulletinOffice$Receiver" 147 y_Al_remove b_Al_remove 4 (some (.object "java/lang/Object")) 1 := ⟨q_3_203, q_1_8, ⟨by decide, by decide⟩, by decide +kernel, Or.inl q_3_200⟩
theorem q_3_201 : (Jvm.Cond.instanceMethod ({ cls := "java/util/ArrayList", name := "remove", desc := "(I)Ljava/lang/Object;" } : Jvm.MethodName)) ∈ hv_ws := wm (wc_3 (List.mem_of_getElem? (i := 201) rfl)) rfl
theorem q_3_202 : (Jvm.Cond.selects "java/util/ArrayList" ({ cls := "java/util/ArrayList", name := "remove", desc := "(I)Ljava/lang/Object;" } : Jvm.MethodName) ({ cls := "java/util/ArrayList", name := "remove", desc := "(I)Ljava/lang/Object;" } : Jvm.MethodName)) ∈ hv_ws := wm (wc_3 (List.mem_of_getElem? (i := 202) rfl)) rfl
theorem q_3_209 : (Jvm.Cond.methodLink "BulletinOffice$Receiver" (150 : Nat) ({ cls := "BulletinOffice$KeyChain", name := "sealPacket", desc := "(ILBulletinOffice$Packet;LBulletinOffice$Sealer;)V" } : Jvm.MethodName)) ∈ hv_ws := wm (wc_3 (List.mem_of_getElem? (i := 209) rfl)) rfl
theorem cs_Rc_150 : hv_cs "BulletinOffice$Receiver" 150 y_Kc_sealPacket b_Kc_sealPacket 4 none 3 := ⟨q_2_207, q_1_5, ⟨by decide, by decide⟩, by decide +kernel, Or.inl q_3_209⟩
theorem q_1_66 : (Jvm.Cond.fieldLink "BulletinOffice$Receiver" (154 : Nat) "BulletinOffice$Sealer" "result" "[I") ∈ hv_ws := wm (wc_1 (List.mem_of_getElem? (i := 66) rfl)) rfl
theorem fa_Rc_154 : hv_fa "BulletinOffice$Receiver" 154 1 0 := ⟨R1, T1, 5, "BulletinOffice$Sealer", rfl, hin1, by decide, Or.inl q_1_66, Or.inl rfl⟩
theorem q_3_213 : (Jvm.Cond.code ({ cls := "BulletinOffice$Packet", name := "hasCode", desc := "([I)Z" } : Jvm.MethodName) prog_4_method_10_code (3 : Nat) (Option.some Jvm.ClassFile.FieldType.boolean)) ∈ hv_ws := wm (wc_3 (List.mem_of_getElem? (i := 213) rfl)) rfl
theorem q_3_210 : (Jvm.Cond.methodLink "BulletinOffice$Receiver" (159 : Nat) ({ cls := "BulletinOffice$Packet", name := "hasCode", desc := "([I)Z" } : Jvm.MethodName)) ∈ hv_ws := wm (wc_3 (List.mem_of_getElem? (i := 210) rfl)) rfl
theorem cs_Rc_159 : hv_cs "BulletinOffice$Receiver" 159 y_Pk_hasCode b_Pk_hasCode 3 (some (.boolean)) 1 := ⟨q_3_213, q_1_20, ⟨by decide, by decide⟩, by decide +kernel, Or.inl q_3_210⟩
theorem q_3_211 : (Jvm.Cond.instanceMethod ({ cls := "BulletinOffice$Packet", name := "hasCode", desc := "([I)Z" } : Jvm.MethodName)) ∈ hv_ws := wm (wc_3 (List.mem_of_getElem? (i := 211) rfl)) rfl
theorem q_3_212 : (Jvm.Cond.selects "BulletinOffice$Packet" ({ cls := "BulletinOffice$Packet", name := "hasCode", desc := "([I)Z" } : Jvm.MethodName) ({ cls := "BulletinOffice$Packet", name := "hasCode", desc := "([I)Z" } : Jvm.MethodName)) ∈ hv_ws := wm (wc_3 (List.mem_of_getElem? (i := 212) rfl)) rfl
theorem q_3_217 : (Jvm.Cond.code ({ cls := "BulletinOffice$Receiver", name := "letGo", desc := "(LBulletinOffice$Packet;)V" } : Jvm.MethodName) prog_5_method_10_code (3 : Nat) (Option.none : Option Jvm.ClassFile.FieldType)) ∈ hv_ws := wm (wc_3 (List.mem_of_getElem? (i := 217) rfl)) rfl
theorem q_3_214 : (Jvm.Cond.methodLink "BulletinOffice$Receiver" (163 : Nat) ({ cls := "BulletinOffice$Receiver", name := "letGo", desc := "(LBulletinOffice$Packet;)V" } : Jvm.MethodName)) ∈ hv_ws := wm (wc_3 (List.mem_of_getElem? (i := 214) rfl)) rfl
theorem cs_Rc_163 : hv_cs "BulletinOffice$Receiver" 163 y_Rc_letGo b_Rc_letGo 3 none 1 := ⟨q_3_217, q_1_9, ⟨by decide, by decide⟩, by decide +kernel, Or.inl q_3_214⟩
theorem q_3_216 : (Jvm.Cond.instanceMethod ({ cls := "BulletinOffice$Receiver", name := "letGo", desc := "(LBulletinOffice$Packet;)V" } : Jvm.MethodName)) ∈ hv_ws := wm (wc_3 (List.mem_of_getElem? (i := 216) rfl)) rfl
theorem qs_Rc_letGo : Cond.selects y_Rc_letGo.cls y_Rc_letGo y_Rc_letGo ∈ hv_ws := wp (q := (y_Rc_letGo, 8)) (List.mem_append_left _ (List.mem_of_getElem? (i := 15) rfl)) rfl
theorem q_3_153 : (Jvm.Cond.code ({ cls := "BulletinOffice$Packet", name := "isBroken", desc := "()Z" } : Jvm.MethodName) prog_4_method_8_code (3 : Nat) (Option.some Jvm.ClassFile.FieldType.boolean)) ∈ hv_ws := wm (wc_3 (List.mem_of_getElem? (i := 153) rfl)) rfl
theorem q_3_150 : (Jvm.Cond.methodLink "BulletinOffice$Receiver" (63 : Nat) ({ cls := "BulletinOffice$Packet", name := "isBroken", desc := "()Z" } : Jvm.MethodName)) ∈ hv_ws := wm (wc_3 (List.mem_of_getElem? (i := 150) rfl)) rfl
theorem cs_Rc_63 : hv_cs "BulletinOffice$Receiver" 63 y_Pk_isBroken b_Pk_isBroken 3 (some (.boolean)) 0 := ⟨q_3_153, q_1_20, ⟨by decide, by decide⟩, by decide +kernel, Or.inl q_3_150⟩
theorem q_3_151 : (Jvm.Cond.instanceMethod ({ cls := "BulletinOffice$Packet", name := "isBroken", desc := "()Z" } : Jvm.MethodName)) ∈ hv_ws := wm (wc_3 (List.mem_of_getElem? (i := 151) rfl)) rfl
theorem q_3_152 : (Jvm.Cond.selects "BulletinOffice$Packet" ({ cls := "BulletinOffice$Packet", name := "isBroken", desc := "()Z" } : Jvm.MethodName) ({ cls := "BulletinOffice$Packet", name := "isBroken", desc := "()Z" } : Jvm.MethodName)) ∈ hv_ws := wm (wc_3 (List.mem_of_getElem? (i := 152) rfl)) rfl
theorem q_3_162 : (Jvm.Cond.code ({ cls := "BulletinOffice$Receiver", name := "takeShownKey", desc := "(LBulletinOffice$Packet;)Z" } : Jvm.MethodName) prog_5_method_5_code (5 : Nat) (Option.some Jvm.ClassFile.FieldType.boolean)) ∈ hv_ws := wm (wc_3 (List.mem_of_getElem? (i := 162) rfl)) rfl
theorem q_3_159 : (Jvm.Cond.methodLink "BulletinOffice$Receiver" (68 : Nat) ({ cls := "BulletinOffice$Receiver", name := "takeShownKey", desc := "(LBulletinOffice$Packet;)Z" } : Jvm.MethodName)) ∈ hv_ws := wm (wc_3 (List.mem_of_getElem? (i := 159) rfl)) rfl
theorem cs_Rc_68 : hv_cs "BulletinOffice$Receiver" 68 y_Rc_takeShownKey b_Rc_takeShownKey 5 (some (.boolean)) 1 := ⟨q_3_162, q_1_9, ⟨by decide, by decide⟩, by decide +kernel, Or.inl q_3_159⟩
theorem q_3_161 : (Jvm.Cond.instanceMethod ({ cls := "BulletinOffice$Receiver", name := "takeShownKey", desc := "(LBulletinOffice$Packet;)Z" } : Jvm.MethodName)) ∈ hv_ws := wm (wc_3 (List.mem_of_getElem? (i := 161) rfl)) rfl
theorem qs_Rc_takeShownKey : Cond.selects y_Rc_takeShownKey.cls y_Rc_takeShownKey y_Rc_takeShownKey ∈ hv_ws := wp (q := (y_Rc_takeShownKey, 8)) (List.mem_append_left _ (List.mem_of_getElem? (i := 10) rfl)) rfl
theorem q_3_188 : (Jvm.Cond.code ({ cls := "BulletinOffice$Receiver", name := "releaseAll", desc := "()V" } : Jvm.MethodName) prog_5_method_8_code (5 : Nat) (Option.none : Option Jvm.ClassFile.FieldType)) ∈ hv_ws := wm (wc_3 (List.mem_of_getElem? (i := 188) rfl)) rfl
theorem q_3_185 : (Jvm.Cond.methodLink "BulletinOffice$Receiver" (72 : Nat) ({ cls := "BulletinOffice$Receiver", name := "releaseAll", desc := "()V" } : Jvm.MethodName)) ∈ hv_ws := wm (wc_3 (List.mem_of_getElem? (i := 185) rfl)) rfl
theorem cs_Rc_72 : hv_cs "BulletinOffice$Receiver" 72 y_Rc_releaseAll b_Rc_releaseAll 5 none 0 := ⟨q_3_188, q_1_9, ⟨by decide, by decide⟩, by decide +kernel, Or.inl q_3_185⟩
theorem q_3_187 : (Jvm.Cond.instanceMethod ({ cls := "BulletinOffice$Receiver", name := "releaseAll", desc := "()V" } : Jvm.MethodName)) ∈ hv_ws := wm (wc_3 (List.mem_of_getElem? (i := 187) rfl)) rfl
theorem qs_Rc_releaseAll : Cond.selects y_Rc_releaseAll.cls y_Rc_releaseAll y_Rc_releaseAll ∈ hv_ws := wp (q := (y_Rc_releaseAll, 8)) (List.mem_append_left _ (List.mem_of_getElem? (i := 11) rfl)) rfl
theorem q_1_152 : (Jvm.Cond.fieldLink "BulletinOffice$Receiver" (79 : Nat) "BulletinOffice$Receiver" "drift" "I") ∈ hv_ws := wm (wc_1 (List.mem_of_getElem? (i := 152) rfl)) rfl
theorem fa_Rc_79 : hv_fa "BulletinOffice$Receiver" 79 4 7 := ⟨R4, T4, 8, "BulletinOffice$Receiver", rfl, hin4, by decide, Or.inl q_1_152, Or.inl rfl⟩
theorem q_3_228 : (Jvm.Cond.code ({ cls := "BulletinOffice$Clock", name := "canHaveShown", desc := "(II)Z" } : Jvm.MethodName) prog_2_method_3_code (3 : Nat) (Option.some Jvm.ClassFile.FieldType.boolean)) ∈ hv_ws := wm (wc_3 (List.mem_of_getElem? (i := 228) rfl)) rfl
theorem q_3_225 : (Jvm.Cond.methodLink "BulletinOffice$Receiver" (82 : Nat) ({ cls := "BulletinOffice$Clock", name := "canHaveShown", desc := "(II)Z" } : Jvm.MethodName)) ∈ hv_ws := wm (wc_3 (List.mem_of_getElem? (i := 225) rfl)) rfl
theorem cs_Rc_82 : hv_cs "BulletinOffice$Receiver" 82 y_Ck_canHaveShown b_Ck_canHaveShown 3 (some (.boolean)) 2 := ⟨q_3_228, q_1_2, ⟨by decide, by decide⟩, by decide +kernel, Or.inl q_3_225⟩
theorem q_3_226 : (Jvm.Cond.instanceMethod ({ cls := "BulletinOffice$Clock", name := "canHaveShown", desc := "(II)Z" } : Jvm.MethodName)) ∈ hv_ws := wm (wc_3 (List.mem_of_getElem? (i := 226) rfl)) rfl
theorem q_3_227 : (Jvm.Cond.selects "BulletinOffice$Clock" ({ cls := "BulletinOffice$Clock", name := "canHaveShown", desc := "(II)Z" } : Jvm.MethodName) ({ cls := "BulletinOffice$Clock", name := "canHaveShown", desc := "(II)Z" } : Jvm.MethodName)) ∈ hv_ws := wm (wc_3 (List.mem_of_getElem? (i := 227) rfl)) rfl
theorem q_3_232 : (Jvm.Cond.code ({ cls := "BulletinOffice$Receiver", name := "holdsTwinOf", desc := "(LBulletinOffice$Packet;)Z" } : Jvm.MethodName) prog_5_method_7_code (3 : Nat) (Option.some Jvm.ClassFile.FieldType.boolean)) ∈ hv_ws := wm (wc_3 (List.mem_of_getElem? (i := 232) rfl)) rfl
theorem q_3_229 : (Jvm.Cond.methodLink "BulletinOffice$Receiver" (92 : Nat) ({ cls := "BulletinOffice$Receiver", name := "holdsTwinOf", desc := "(LBulletinOffice$Packet;)Z" } : Jvm.MethodName)) ∈ hv_ws := wm (wc_3 (List.mem_of_getElem? (i := 229) rfl)) rfl
theorem cs_Rc_92 : hv_cs "BulletinOffice$Receiver" 92 y_Rc_holdsTwinOf b_Rc_holdsTwinOf 3 (some (.boolean)) 1 := ⟨q_3_232, q_1_9, ⟨by decide, by decide⟩, by decide +kernel, Or.inl q_3_229⟩
theorem q_3_231 : (Jvm.Cond.instanceMethod ({ cls := "BulletinOffice$Receiver", name := "holdsTwinOf", desc := "(LBulletinOffice$Packet;)Z" } : Jvm.MethodName)) ∈ hv_ws := wm (wc_3 (List.mem_of_getElem? (i := 231) rfl)) rfl
theorem qs_Rc_holdsTwinOf : Cond.selects y_Rc_holdsTwinOf.cls y_Rc_holdsTwinOf y_Rc_holdsTwinOf ∈ hv_ws := wp (q := (y_Rc_holdsTwinOf, 8)) (List.mem_append_right _ (List.mem_append_left _ (List.mem_of_getElem? (i := 0) rfl))) rfl
