theorem q_1_114 : (Jvm.Cond.methodLink "java/util/AbstractCollection" (1 : Nat) ({ cls := "java/lang/Object", name := "<init>", desc := "()V" } : Jvm.MethodName)) ∈ hv_ws := wm (wc_1 (List.mem_of_getElem? (i := 114) rfl)) rfl
theorem q_1_113 : (Jvm.Cond.code ({ cls := "java/util/AbstractCollection", name := "<init>", desc := "()V" } : Jvm.MethodName) prog_21_method_1_code (1 : Nat) (Option.none : Option Jvm.ClassFile.FieldType)) ∈ hv_ws := wm (wc_1 (List.mem_of_getElem? (i := 113) rfl)) rfl
theorem q_1_6 : (Jvm.Cond.initialized "java/util/AbstractCollection") ∈ hv_ws := wm (wc_1 (List.mem_of_getElem? (i := 6) rfl)) rfl
theorem q_1_111 : (Jvm.Cond.methodLink "java/util/AbstractList" (1 : Nat) ({ cls := "java/util/AbstractCollection", name := "<init>", desc := "()V" } : Jvm.MethodName)) ∈ hv_ws := wm (wc_1 (List.mem_of_getElem? (i := 111) rfl)) rfl
theorem cs_Ab_1 : hv_cs "java/util/AbstractList" 1 y_Ac_init b_Ac_init 1 none 0 := ⟨q_1_113, q_1_6, ⟨by decide, by decide⟩, by decide +kernel, Or.inl q_1_111⟩
theorem q_1_112 : (Jvm.Cond.instanceMethod ({ cls := "java/util/AbstractCollection", name := "<init>", desc := "()V" } : Jvm.MethodName)) ∈ hv_ws := wm (wc_1 (List.mem_of_getElem? (i := 112) rfl)) rfl
theorem q_1_122 : (Jvm.Cond.lays "java/util/ArrayList" "java/util/ArrayList" "elementData" "[Ljava/lang/Object;") ∈ hv_ws := wm (wc_1 (List.mem_of_getElem? (i := 122) rfl)) rfl
theorem q_1_124 : (Jvm.Cond.lays "java/util/ArrayList" "java/util/ArrayList" "size" "I") ∈ hv_ws := wm (wc_1 (List.mem_of_getElem? (i := 124) rfl)) rfl
theorem q_1_126 : (Jvm.Cond.lays "java/util/ArrayList" "java/util/AbstractList" "modCount" "I") ∈ hv_ws := wm (wc_1 (List.mem_of_getElem? (i := 126) rfl)) rfl
theorem hin7 : ∀ w ∈ u_ws R7 T7 3, w ∈ hv_ws := by
  intro w hw
  obtain ⟨k, hk, rfl⟩ := List.mem_map.mp hw
  have hk := List.mem_range.mp hk
  match k, hk with
  | 0, _ => exact q_1_122
  | 1, _ => exact q_1_124
  | 2, _ => exact q_1_126
  | n + 3, h => exact absurd h (by omega)
theorem q_1_119 : (Jvm.Cond.fieldLink "java/util/AbstractList" (7 : Nat) "java/util/AbstractList" "modCount" "I") ∈ hv_ws := wm (wc_1 (List.mem_of_getElem? (i := 119) rfl)) rfl
theorem fp_Ab_7 : hv_fp "java/util/AbstractList" 7 7 2 (.int) false := ⟨R7, T7, 3, "java/util/AbstractList", ty7, rfl, hin7, by decide, Or.inl q_1_119, Or.inl rfl, tk7, nm7, rfl, (fun h => by cases h), tk7 2 (by decide)⟩
theorem q_1_110 : (Jvm.Cond.code ({ cls := "java/util/AbstractList", name := "<init>", desc := "()V" } : Jvm.MethodName) prog_22_method_1_code (1 : Nat) (Option.none : Option Jvm.ClassFile.FieldType)) ∈ hv_ws := wm (wc_1 (List.mem_of_getElem? (i := 110) rfl)) rfl
theorem q_1_7 : (Jvm.Cond.initialized "java/util/AbstractList") ∈ hv_ws := wm (wc_1 (List.mem_of_getElem? (i := 7) rfl)) rfl
theorem q_1_108 : (Jvm.Cond.methodLink "java/util/ArrayList" (1 : Nat) ({ cls := "java/util/AbstractList", name := "<init>", desc := "()V" } : Jvm.MethodName)) ∈ hv_ws := wm (wc_1 (List.mem_of_getElem? (i := 108) rfl)) rfl
theorem cs_Al_1 : hv_cs "java/util/ArrayList" 1 y_Ab_init b_Ab_init 1 none 0 := ⟨q_1_110, q_1_7, ⟨by decide, by decide⟩, by decide +kernel, Or.inl q_1_108⟩
theorem q_1_109 : (Jvm.Cond.instanceMethod ({ cls := "java/util/AbstractList", name := "<init>", desc := "()V" } : Jvm.MethodName)) ∈ hv_ws := wm (wc_1 (List.mem_of_getElem? (i := 109) rfl)) rfl
theorem q_1_115 : (Jvm.Cond.fieldLink "java/util/ArrayList" (39 : Nat) "java/util/ArrayList" "DEFAULTCAPACITY_EMPTY_ELEMENTDATA" "[Ljava/lang/Object;") ∈ hv_ws := wm (wc_1 (List.mem_of_getElem? (i := 115) rfl)) rfl
theorem q_1_117 : (Jvm.Cond.fieldLink "java/util/ArrayList" (9 : Nat) "java/util/ArrayList" "elementData" "[Ljava/lang/Object;") ∈ hv_ws := wm (wc_1 (List.mem_of_getElem? (i := 117) rfl)) rfl
theorem fp_Al_9 : hv_fp "java/util/ArrayList" 9 7 0 (.array (.object "java/lang/Object")) false := ⟨R7, T7, 3, "java/util/ArrayList", ty7, rfl, hin7, by decide, Or.inl q_1_117, Or.inl rfl, tk7, nm7, rfl, (fun h => by cases h), tk7 0 (by decide)⟩
theorem q_1_118 : (Jvm.Cond.fieldLink "java/util/ArrayList" (48 : Nat) "java/util/ArrayList" "size" "I") ∈ hv_ws := wm (wc_1 (List.mem_of_getElem? (i := 118) rfl)) rfl
theorem fa_Al_48 : hv_fa "java/util/ArrayList" 48 7 1 := ⟨R7, T7, 3, "java/util/ArrayList", rfl, hin7, by decide, Or.inl q_1_118, Or.inl rfl⟩
theorem q_3_19 : (Jvm.Cond.constant "jdk/internal/util/ArraysSupport" (200 : Nat) (2147483639 : Int32)) ∈ hv_ws := wm (wc_3 (List.mem_of_getElem? (i := 19) rfl)) rfl
theorem q_3_16 : (Jvm.Cond.methodLink "jdk/internal/util/ArraysSupport" (194 : Nat) ({ cls := "java/lang/Math", name := "max", desc := "(II)I" } : Jvm.MethodName)) ∈ hv_ws := wm (wc_3 (List.mem_of_getElem? (i := 16) rfl)) rfl
theorem q_3_17 : (Jvm.Cond.static ({ cls := "java/lang/Math", name := "max", desc := "(II)I" } : Jvm.MethodName)) ∈ hv_ws := wm (wc_3 (List.mem_of_getElem? (i := 17) rfl)) rfl
theorem q_1_3 : (Jvm.Cond.initialized "java/lang/Math") ∈ hv_ws := wm (wc_1 (List.mem_of_getElem? (i := 3) rfl)) rfl
theorem q_3_18 : (Jvm.Cond.code ({ cls := "java/lang/Math", name := "max", desc := "(II)I" } : Jvm.MethodName) prog_16_method_65_code (2 : Nat) (Option.some Jvm.ClassFile.FieldType.int)) ∈ hv_ws := wm (wc_3 (List.mem_of_getElem? (i := 18) rfl)) rfl
theorem q_3_47 : (Jvm.Cond.classLink "java/util/Arrays" (2 : Nat) "java/lang/Object") ∈ hv_ws := wm (wc_3 (List.mem_of_getElem? (i := 47) rfl)) rfl
theorem q_3_51 : (Jvm.Cond.methodLink "java/util/Arrays" (150 : Nat) ({ cls := "java/lang/System", name := "arraycopy", desc := "(Ljava/lang/Object;ILjava/lang/Object;II)V" } : Jvm.MethodName)) ∈ hv_ws := wm (wc_3 (List.mem_of_getElem? (i := 51) rfl)) rfl
theorem q_3_48 : (Jvm.Cond.methodLink "java/util/Arrays" (304 : Nat) ({ cls := "java/lang/Math", name := "min", desc := "(II)I" } : Jvm.MethodName)) ∈ hv_ws := wm (wc_3 (List.mem_of_getElem? (i := 48) rfl)) rfl
theorem q_3_49 : (Jvm.Cond.static ({ cls := "java/lang/Math", name := "min", desc := "(II)I" } : Jvm.MethodName)) ∈ hv_ws := wm (wc_3 (List.mem_of_getElem? (i := 49) rfl)) rfl
theorem q_3_50 : (Jvm.Cond.code ({ cls := "java/lang/Math", name := "min", desc := "(II)I" } : Jvm.MethodName) prog_16_method_69_code (2 : Nat) (Option.some Jvm.ClassFile.FieldType.int)) ∈ hv_ws := wm (wc_3 (List.mem_of_getElem? (i := 50) rfl)) rfl
theorem q_3_45 : (Jvm.Cond.classLink "java/util/Arrays" (110 : Nat) "[Ljava/lang/Object;") ∈ hv_ws := wm (wc_3 (List.mem_of_getElem? (i := 45) rfl)) rfl
theorem q_3_44 : (Jvm.Cond.code ({ cls := "java/util/Arrays", name := "copyOf", desc := "([Ljava/lang/Object;ILjava/lang/Class;)[Ljava/lang/Object;" } : Jvm.MethodName) prog_24_method_120_code (4 : Nat) (Option.some (Jvm.ClassFile.FieldType.array (Jvm.ClassFile.FieldType.object "java/lang/Object")))) ∈ hv_ws := wm (wc_3 (List.mem_of_getElem? (i := 44) rfl)) rfl
theorem q_3_42 : (Jvm.Cond.methodLink "java/util/Arrays" (300 : Nat) ({ cls := "java/util/Arrays", name := "copyOf", desc := "([Ljava/lang/Object;ILjava/lang/Class;)[Ljava/lang/Object;" } : Jvm.MethodName)) ∈ hv_ws := wm (wc_3 (List.mem_of_getElem? (i := 42) rfl)) rfl
theorem cs_Ar_300 : hv_cs "java/util/Arrays" 300 y_Ar_copyOf2 b_Ar_copyOf2 4 (some (.array (.object "java/lang/Object"))) 3 := ⟨q_3_44, q_1_15, ⟨by decide, by decide⟩, by decide +kernel, Or.inl q_3_42⟩
theorem q_3_43 : (Jvm.Cond.static ({ cls := "java/util/Arrays", name := "copyOf", desc := "([Ljava/lang/Object;ILjava/lang/Class;)[Ljava/lang/Object;" } : Jvm.MethodName)) ∈ hv_ws := wm (wc_3 (List.mem_of_getElem? (i := 43) rfl)) rfl
theorem q_5_166 : (Jvm.Cond.selects "[Ljava/lang/Object;" ({ cls := "java/lang/Object", name := "getClass", desc := "()Ljava/lang/Class;" } : Jvm.MethodName) ({ cls := "java/lang/Object", name := "getClass", desc := "()Ljava/lang/Class;" } : Jvm.MethodName)) ∈ hv_ws := wm (wc_5 (List.mem_of_getElem? (i := 166) rfl)) rfl
theorem q_3_26 : (Jvm.Cond.methodLink "java/util/Arrays" (86 : Nat) ({ cls := "java/lang/Object", name := "getClass", desc := "()Ljava/lang/Class;" } : Jvm.MethodName)) ∈ hv_ws := wm (wc_3 (List.mem_of_getElem? (i := 26) rfl)) rfl
theorem q_3_27 : (Jvm.Cond.instanceMethod ({ cls := "java/lang/Object", name := "getClass", desc := "()Ljava/lang/Class;" } : Jvm.MethodName)) ∈ hv_ws := wm (wc_3 (List.mem_of_getElem? (i := 27) rfl)) rfl
theorem q_3_41 : (Jvm.Cond.native ({ cls := "java/lang/Object", name := "getClass", desc := "()Ljava/lang/Class;" } : Jvm.MethodName)) ∈ hv_ws := wm (wc_3 (List.mem_of_getElem? (i := 41) rfl)) rfl
theorem fa_Al_9 : hv_fa "java/util/ArrayList" 9 7 0 := ⟨R7, T7, 3, "java/util/ArrayList", rfl, hin7, by decide, Or.inl q_1_117, Or.inl rfl⟩
theorem q_3_15 : (Jvm.Cond.code ({ cls := "jdk/internal/util/ArraysSupport", name := "newLength", desc := "(III)I" } : Jvm.MethodName) prog_30_method_27_code (4 : Nat) (Option.some Jvm.ClassFile.FieldType.int)) ∈ hv_ws := wm (wc_3 (List.mem_of_getElem? (i := 15) rfl)) rfl
theorem q_1_21 : (Jvm.Cond.initialized "jdk/internal/util/ArraysSupport") ∈ hv_ws := wm (wc_1 (List.mem_of_getElem? (i := 21) rfl)) rfl
theorem q_3_13 : (Jvm.Cond.methodLink "java/util/ArrayList" (73 : Nat) ({ cls := "jdk/internal/util/ArraysSupport", name := "newLength", desc := "(III)I" } : Jvm.MethodName)) ∈ hv_ws := wm (wc_3 (List.mem_of_getElem? (i := 13) rfl)) rfl
theorem cs_Al_73 : hv_cs "java/util/ArrayList" 73 y_As_newLength b_As_newLength 4 (some (.int)) 3 := ⟨q_3_15, q_1_21, ⟨by decide, by decide⟩, by decide +kernel, Or.inl q_3_13⟩
theorem q_3_14 : (Jvm.Cond.static ({ cls := "jdk/internal/util/ArraysSupport", name := "newLength", desc := "(III)I" } : Jvm.MethodName)) ∈ hv_ws := wm (wc_3 (List.mem_of_getElem? (i := 14) rfl)) rfl
theorem q_3_25 : (Jvm.Cond.code ({ cls := "java/util/Arrays", name := "copyOf", desc := "([Ljava/lang/Object;I)[Ljava/lang/Object;" } : Jvm.MethodName) prog_24_method_119_code (2 : Nat) (Option.some (Jvm.ClassFile.FieldType.array (Jvm.ClassFile.FieldType.object "java/lang/Object")))) ∈ hv_ws := wm (wc_3 (List.mem_of_getElem? (i := 25) rfl)) rfl
theorem q_3_23 : (Jvm.Cond.methodLink "java/util/ArrayList" (66 : Nat) ({ cls := "java/util/Arrays", name := "copyOf", desc := "([Ljava/lang/Object;I)[Ljava/lang/Object;" } : Jvm.MethodName)) ∈ hv_ws := wm (wc_3 (List.mem_of_getElem? (i := 23) rfl)) rfl
theorem cs_Al_66 : hv_cs "java/util/ArrayList" 66 y_Ar_copyOf1 b_Ar_copyOf1 2 (some (.array (.object "java/lang/Object"))) 2 := ⟨q_3_25, q_1_15, ⟨by decide, by decide⟩, by decide +kernel, Or.inl q_3_23⟩
theorem q_3_24 : (Jvm.Cond.static ({ cls := "java/util/Arrays", name := "copyOf", desc := "([Ljava/lang/Object;I)[Ljava/lang/Object;" } : Jvm.MethodName)) ∈ hv_ws := wm (wc_3 (List.mem_of_getElem? (i := 24) rfl)) rfl
theorem q_3_53 : (Jvm.Cond.classLink "java/util/ArrayList" (7 : Nat) "java/lang/Object") ∈ hv_ws := wm (wc_3 (List.mem_of_getElem? (i := 53) rfl)) rfl
theorem q_3_52 : (Jvm.Cond.methodLink "java/util/ArrayList" (79 : Nat) ({ cls := "java/lang/Math", name := "max", desc := "(II)I" } : Jvm.MethodName)) ∈ hv_ws := wm (wc_3 (List.mem_of_getElem? (i := 52) rfl)) rfl
theorem q_3_12 : (Jvm.Cond.code ({ cls := "java/util/ArrayList", name := "grow", desc := "(I)[Ljava/lang/Object;" } : Jvm.MethodName) prog_23_method_6_code (4 : Nat) (Option.some (Jvm.ClassFile.FieldType.array (Jvm.ClassFile.FieldType.object "java/lang/Object")))) ∈ hv_ws := wm (wc_3 (List.mem_of_getElem? (i := 12) rfl)) rfl
theorem q_1_8 : (Jvm.Cond.initialized "java/util/ArrayList") ∈ hv_ws := wm (wc_1 (List.mem_of_getElem? (i := 8) rfl)) rfl
theorem q_3_9 : (Jvm.Cond.methodLink "java/util/ArrayList" (69 : Nat) ({ cls := "java/util/ArrayList", name := "grow", desc := "(I)[Ljava/lang/Object;" } : Jvm.MethodName)) ∈ hv_ws := wm (wc_3 (List.mem_of_getElem? (i := 9) rfl)) rfl
theorem cs_Al_69 : hv_cs "java/util/ArrayList" 69 y_Al_grow2 b_Al_grow2 4 (some (.array (.object "java/lang/Object"))) 1 := ⟨q_3_12, q_1_8, ⟨by decide, by decide⟩, by decide +kernel, Or.inl q_3_9⟩
theorem q_3_11 : (Jvm.Cond.instanceMethod ({ cls := "java/util/ArrayList", name := "grow", desc := "(I)[Ljava/lang/Object;" } : Jvm.MethodName)) ∈ hv_ws := wm (wc_3 (List.mem_of_getElem? (i := 11) rfl)) rfl
theorem qs_Al_grow2 : Cond.selects y_Al_grow2.cls y_Al_grow2 y_Al_grow2 ∈ hv_ws := wp (q := (y_Al_grow2, 3)) (List.mem_append_left _ (List.mem_of_getElem? (i := 7) rfl)) rfl
theorem fp_Al_48 : hv_fp "java/util/ArrayList" 48 7 1 (.int) false := ⟨R7, T7, 3, "java/util/ArrayList", ty7, rfl, hin7, by decide, Or.inl q_1_118, Or.inl rfl, tk7, nm7, rfl, (fun h => by cases h), tk7 1 (by decide)⟩
theorem q_3_8 : (Jvm.Cond.code ({ cls := "java/util/ArrayList", name := "grow", desc := "()[Ljava/lang/Object;" } : Jvm.MethodName) prog_23_method_7_code (1 : Nat) (Option.some (Jvm.ClassFile.FieldType.array (Jvm.ClassFile.FieldType.object "java/lang/Object")))) ∈ hv_ws := wm (wc_3 (List.mem_of_getElem? (i := 8) rfl)) rfl
theorem q_3_5 : (Jvm.Cond.methodLink "java/util/ArrayList" (129 : Nat) ({ cls := "java/util/ArrayList", name := "grow", desc := "()[Ljava/lang/Object;" } : Jvm.MethodName)) ∈ hv_ws := wm (wc_3 (List.mem_of_getElem? (i := 5) rfl)) rfl
theorem cs_Al_129 : hv_cs "java/util/ArrayList" 129 y_Al_grow1 b_Al_grow1 1 (some (.array (.object "java/lang/Object"))) 0 := ⟨q_3_8, q_1_8, ⟨by decide, by decide⟩, by decide +kernel, Or.inl q_3_5⟩
theorem q_3_7 : (Jvm.Cond.instanceMethod ({ cls := "java/util/ArrayList", name := "grow", desc := "()[Ljava/lang/Object;" } : Jvm.MethodName)) ∈ hv_ws := wm (wc_3 (List.mem_of_getElem? (i := 7) rfl)) rfl
theorem qs_Al_grow1 : Cond.selects y_Al_grow1.cls y_Al_grow1 y_Al_grow1 ∈ hv_ws := wp (q := (y_Al_grow1, 3)) (List.mem_append_left _ (List.mem_of_getElem? (i := 6) rfl)) rfl
theorem q_1_120 : (Jvm.Cond.fieldLink "java/util/ArrayList" (63 : Nat) "java/util/ArrayList" "modCount" "I") ∈ hv_ws := wm (wc_1 (List.mem_of_getElem? (i := 120) rfl)) rfl
theorem q_1_121 : (Jvm.Cond.sameField "java/util/ArrayList" "java/util/AbstractList" "modCount" "I") ∈ hv_ws := wm (wc_1 (List.mem_of_getElem? (i := 121) rfl)) rfl
theorem fa_Al_63 : hv_fa "java/util/ArrayList" 63 7 2 := ⟨R7, T7, 3, "java/util/ArrayList", rfl, hin7, by decide, Or.inl q_1_120, Or.inr q_1_121⟩
theorem q_3_4 : (Jvm.Cond.code ({ cls := "java/util/ArrayList", name := "add", desc := "(Ljava/lang/Object;[Ljava/lang/Object;I)V" } : Jvm.MethodName) prog_23_method_24_code (4 : Nat) (Option.none : Option Jvm.ClassFile.FieldType)) ∈ hv_ws := wm (wc_3 (List.mem_of_getElem? (i := 4) rfl)) rfl
theorem q_3_1 : (Jvm.Cond.methodLink "java/util/ArrayList" (131 : Nat) ({ cls := "java/util/ArrayList", name := "add", desc := "(Ljava/lang/Object;[Ljava/lang/Object;I)V" } : Jvm.MethodName)) ∈ hv_ws := wm (wc_3 (List.mem_of_getElem? (i := 1) rfl)) rfl
theorem cs_Al_131 : hv_cs "java/util/ArrayList" 131 y_Al_add2 b_Al_add2 4 none 3 := ⟨q_3_4, q_1_8, ⟨by decide, by decide⟩, by decide +kernel, Or.inl q_3_1⟩
theorem q_3_3 : (Jvm.Cond.instanceMethod ({ cls := "java/util/ArrayList", name := "add", desc := "(Ljava/lang/Object;[Ljava/lang/Object;I)V" } : Jvm.MethodName)) ∈ hv_ws := wm (wc_3 (List.mem_of_getElem? (i := 3) rfl)) rfl
theorem qs_Al_add2 : Cond.selects y_Al_add2.cls y_Al_add2 y_Al_add2 ∈ hv_ws := wp (q := (y_Al_add2, 3)) (List.mem_append_left _ (List.mem_of_getElem? (i := 5) rfl)) rfl
theorem fp_Al_63 : hv_fp "java/util/ArrayList" 63 7 2 (.int) false := ⟨R7, T7, 3, "java/util/ArrayList", ty7, rfl, hin7, by decide, Or.inl q_1_120, Or.inr q_1_121, tk7, nm7, rfl, (fun h => by cases h), tk7 2 (by decide)⟩
theorem q_3_81 : (Jvm.Cond.code ({ cls := "jdk/internal/util/Preconditions", name := "checkIndex", desc := "(IILjava/util/function/BiFunction;)I" } : Jvm.MethodName) prog_31_method_11_code (3 : Nat) (Option.some Jvm.ClassFile.FieldType.int)) ∈ hv_ws := wm (wc_3 (List.mem_of_getElem? (i := 81) rfl)) rfl
theorem q_1_23 : (Jvm.Cond.initialized "jdk/internal/util/Preconditions") ∈ hv_ws := wm (wc_1 (List.mem_of_getElem? (i := 23) rfl)) rfl
theorem q_3_79 : (Jvm.Cond.methodLink "java/util/Objects" (105 : Nat) ({ cls := "jdk/internal/util/Preconditions", name := "checkIndex", desc := "(IILjava/util/function/BiFunction;)I" } : Jvm.MethodName)) ∈ hv_ws := wm (wc_3 (List.mem_of_getElem? (i := 79) rfl)) rfl
theorem cs_Ob_105 : hv_cs "java/util/Objects" 105 y_Pc_checkIndex b_Pc_checkIndex 3 (some (.int)) 3 := ⟨q_3_81, q_1_23, ⟨by decide, by decide⟩, by decide +kernel, Or.inl q_3_79⟩
theorem q_3_80 : (Jvm.Cond.static ({ cls := "jdk/internal/util/Preconditions", name := "checkIndex", desc := "(IILjava/util/function/BiFunction;)I" } : Jvm.MethodName)) ∈ hv_ws := wm (wc_3 (List.mem_of_getElem? (i := 80) rfl)) rfl
theorem q_3_78 : (Jvm.Cond.code ({ cls := "java/util/Objects", name := "checkIndex", desc := "(II)I" } : Jvm.MethodName) prog_27_method_17_code (2 : Nat) (Option.some Jvm.ClassFile.FieldType.int)) ∈ hv_ws := wm (wc_3 (List.mem_of_getElem? (i := 78) rfl)) rfl
theorem q_1_22 : (Jvm.Cond.initialized "java/util/Objects") ∈ hv_ws := wm (wc_1 (List.mem_of_getElem? (i := 22) rfl)) rfl
theorem q_3_76 : (Jvm.Cond.methodLink "java/util/ArrayList" (118 : Nat) ({ cls := "java/util/Objects", name := "checkIndex", desc := "(II)I" } : Jvm.MethodName)) ∈ hv_ws := wm (wc_3 (List.mem_of_getElem? (i := 76) rfl)) rfl
theorem cs_Al_118 : hv_cs "java/util/ArrayList" 118 y_Ob_checkIndex b_Ob_checkIndex 2 (some (.int)) 2 := ⟨q_3_78, q_1_22, ⟨by decide, by decide⟩, by decide +kernel, Or.inl q_3_76⟩
theorem q_3_77 : (Jvm.Cond.static ({ cls := "java/util/Objects", name := "checkIndex", desc := "(II)I" } : Jvm.MethodName)) ∈ hv_ws := wm (wc_3 (List.mem_of_getElem? (i := 77) rfl)) rfl
theorem q_3_85 : (Jvm.Cond.code ({ cls := "java/util/ArrayList", name := "elementData", desc := "(I)Ljava/lang/Object;" } : Jvm.MethodName) prog_23_method_18_code (2 : Nat) (Option.some (Jvm.ClassFile.FieldType.object "java/lang/Object"))) ∈ hv_ws := wm (wc_3 (List.mem_of_getElem? (i := 85) rfl)) rfl
theorem q_3_82 : (Jvm.Cond.methodLink "java/util/ArrayList" (123 : Nat) ({ cls := "java/util/ArrayList", name := "elementData", desc := "(I)Ljava/lang/Object;" } : Jvm.MethodName)) ∈ hv_ws := wm (wc_3 (List.mem_of_getElem? (i := 82) rfl)) rfl
theorem cs_Al_123 : hv_cs "java/util/ArrayList" 123 y_Al_elementData b_Al_elementData 2 (some (.object "java/lang/Object")) 1 := ⟨q_3_85, q_1_8, ⟨by decide, by decide⟩, by decide +kernel, Or.inl q_3_82⟩
theorem q_3_83 : (Jvm.Cond.instanceMethod ({ cls := "java/util/ArrayList", name := "elementData", desc := "(I)Ljava/lang/Object;" } : Jvm.MethodName)) ∈ hv_ws := wm (wc_3 (List.mem_of_getElem? (i := 83) rfl)) rfl
theorem q_3_84 : (Jvm.Cond.selects "java/util/ArrayList" ({ cls := "java/util/ArrayList", name := "elementData", desc := "(I)Ljava/lang/Object;" } : Jvm.MethodName) ({ cls := "java/util/ArrayList", name := "elementData", desc := "(I)Ljava/lang/Object;" } : Jvm.MethodName)) ∈ hv_ws := wm (wc_3 (List.mem_of_getElem? (i := 84) rfl)) rfl
theorem q_3_208 : (Jvm.Cond.methodLink "java/util/ArrayList" (112 : Nat) ({ cls := "java/lang/System", name := "arraycopy", desc := "(Ljava/lang/Object;ILjava/lang/Object;II)V" } : Jvm.MethodName)) ∈ hv_ws := wm (wc_3 (List.mem_of_getElem? (i := 208) rfl)) rfl
theorem q_3_207 : (Jvm.Cond.code ({ cls := "java/util/ArrayList", name := "fastRemove", desc := "([Ljava/lang/Object;I)V" } : Jvm.MethodName) prog_23_method_39_code (4 : Nat) (Option.none : Option Jvm.ClassFile.FieldType)) ∈ hv_ws := wm (wc_3 (List.mem_of_getElem? (i := 207) rfl)) rfl
theorem q_3_204 : (Jvm.Cond.methodLink "java/util/ArrayList" (144 : Nat) ({ cls := "java/util/ArrayList", name := "fastRemove", desc := "([Ljava/lang/Object;I)V" } : Jvm.MethodName)) ∈ hv_ws := wm (wc_3 (List.mem_of_getElem? (i := 204) rfl)) rfl
theorem cs_Al_144 : hv_cs "java/util/ArrayList" 144 y_Al_fastRemove b_Al_fastRemove 4 none 2 := ⟨q_3_207, q_1_8, ⟨by decide, by decide⟩, by decide +kernel, Or.inl q_3_204⟩
theorem q_3_206 : (Jvm.Cond.instanceMethod ({ cls := "java/util/ArrayList", name := "fastRemove", desc := "([Ljava/lang/Object;I)V" } : Jvm.MethodName)) ∈ hv_ws := wm (wc_3 (List.mem_of_getElem? (i := 206) rfl)) rfl
theorem qs_Al_fastRemove : Cond.selects y_Al_fastRemove.cls y_Al_fastRemove y_Al_fastRemove ∈ hv_ws := wp (q := (y_Al_fastRemove, 3)) (List.mem_append_left _ (List.mem_of_getElem? (i := 14) rfl)) rfl
theorem q_3_145 : (Jvm.Cond.classLink "BulletinOffice$Packet" (16 : Nat) "[I") ∈ hv_ws := wm (wc_3 (List.mem_of_getElem? (i := 145) rfl)) rfl
theorem q_3_139 : (Jvm.Cond.methodLink "BulletinOffice$Packet" (15 : Nat) ({ cls := "[I", name := "clone", desc := "()Ljava/lang/Object;" } : Jvm.MethodName)) ∈ hv_ws := wm (wc_3 (List.mem_of_getElem? (i := 139) rfl)) rfl
theorem q_3_140 : (Jvm.Cond.sameMethod "[I" "java/lang/Object" "clone" "()Ljava/lang/Object;") ∈ hv_ws := wm (wc_3 (List.mem_of_getElem? (i := 140) rfl)) rfl
theorem q_3_141 : (Jvm.Cond.native ({ cls := "java/lang/Object", name := "clone", desc := "()Ljava/lang/Object;" } : Jvm.MethodName)) ∈ hv_ws := wm (wc_3 (List.mem_of_getElem? (i := 141) rfl)) rfl
theorem q_3_142 : (Jvm.Cond.instanceMethod ({ cls := "java/lang/Object", name := "clone", desc := "()Ljava/lang/Object;" } : Jvm.MethodName)) ∈ hv_ws := wm (wc_3 (List.mem_of_getElem? (i := 142) rfl)) rfl
theorem q_3_143 : (Jvm.Cond.selects "[I" ({ cls := "[I", name := "clone", desc := "()Ljava/lang/Object;" } : Jvm.MethodName) ({ cls := "java/lang/Object", name := "clone", desc := "()Ljava/lang/Object;" } : Jvm.MethodName)) ∈ hv_ws := wm (wc_3 (List.mem_of_getElem? (i := 143) rfl)) rfl
