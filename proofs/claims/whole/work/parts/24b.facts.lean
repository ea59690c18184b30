theorem q_4_34 : (Jvm.Cond.constant "BulletinOfficeModel" (7 : Nat) (1116352408 : Int32)) ∈ hv_ws := wm (wc_4 (List.mem_of_getElem? (i := 34) rfl)) rfl
theorem q_4_35 : (Jvm.Cond.constant "BulletinOfficeModel" (8 : Nat) (1899447441 : Int32)) ∈ hv_ws := wm (wc_4 (List.mem_of_getElem? (i := 35) rfl)) rfl
theorem q_4_36 : (Jvm.Cond.constant "BulletinOfficeModel" (9 : Nat) (-1245643825 : Int32)) ∈ hv_ws := wm (wc_4 (List.mem_of_getElem? (i := 36) rfl)) rfl
theorem q_4_37 : (Jvm.Cond.constant "BulletinOfficeModel" (10 : Nat) (-373957723 : Int32)) ∈ hv_ws := wm (wc_4 (List.mem_of_getElem? (i := 37) rfl)) rfl
theorem q_4_38 : (Jvm.Cond.constant "BulletinOfficeModel" (11 : Nat) (961987163 : Int32)) ∈ hv_ws := wm (wc_4 (List.mem_of_getElem? (i := 38) rfl)) rfl
theorem q_4_39 : (Jvm.Cond.constant "BulletinOfficeModel" (12 : Nat) (1508970993 : Int32)) ∈ hv_ws := wm (wc_4 (List.mem_of_getElem? (i := 39) rfl)) rfl
theorem q_4_40 : (Jvm.Cond.constant "BulletinOfficeModel" (13 : Nat) (-1841331548 : Int32)) ∈ hv_ws := wm (wc_4 (List.mem_of_getElem? (i := 40) rfl)) rfl
theorem q_4_41 : (Jvm.Cond.constant "BulletinOfficeModel" (14 : Nat) (-1424204075 : Int32)) ∈ hv_ws := wm (wc_4 (List.mem_of_getElem? (i := 41) rfl)) rfl
theorem q_4_42 : (Jvm.Cond.constant "BulletinOfficeModel" (15 : Nat) (-670586216 : Int32)) ∈ hv_ws := wm (wc_4 (List.mem_of_getElem? (i := 42) rfl)) rfl
theorem q_4_43 : (Jvm.Cond.constant "BulletinOfficeModel" (16 : Nat) (310598401 : Int32)) ∈ hv_ws := wm (wc_4 (List.mem_of_getElem? (i := 43) rfl)) rfl
theorem q_4_44 : (Jvm.Cond.constant "BulletinOfficeModel" (17 : Nat) (607225278 : Int32)) ∈ hv_ws := wm (wc_4 (List.mem_of_getElem? (i := 44) rfl)) rfl
theorem q_4_45 : (Jvm.Cond.constant "BulletinOfficeModel" (18 : Nat) (1426881987 : Int32)) ∈ hv_ws := wm (wc_4 (List.mem_of_getElem? (i := 45) rfl)) rfl
theorem q_4_46 : (Jvm.Cond.constant "BulletinOfficeModel" (19 : Nat) (1925078388 : Int32)) ∈ hv_ws := wm (wc_4 (List.mem_of_getElem? (i := 46) rfl)) rfl
theorem q_4_47 : (Jvm.Cond.constant "BulletinOfficeModel" (20 : Nat) (-2132889090 : Int32)) ∈ hv_ws := wm (wc_4 (List.mem_of_getElem? (i := 47) rfl)) rfl
theorem q_4_48 : (Jvm.Cond.constant "BulletinOfficeModel" (21 : Nat) (-1680079193 : Int32)) ∈ hv_ws := wm (wc_4 (List.mem_of_getElem? (i := 48) rfl)) rfl
theorem q_4_49 : (Jvm.Cond.constant "BulletinOfficeModel" (22 : Nat) (-1046744716 : Int32)) ∈ hv_ws := wm (wc_4 (List.mem_of_getElem? (i := 49) rfl)) rfl
theorem q_4_50 : (Jvm.Cond.constant "BulletinOfficeModel" (23 : Nat) (-459576895 : Int32)) ∈ hv_ws := wm (wc_4 (List.mem_of_getElem? (i := 50) rfl)) rfl
theorem q_4_51 : (Jvm.Cond.constant "BulletinOfficeModel" (24 : Nat) (-272742522 : Int32)) ∈ hv_ws := wm (wc_4 (List.mem_of_getElem? (i := 51) rfl)) rfl
theorem q_4_52 : (Jvm.Cond.constant "BulletinOfficeModel" (25 : Nat) (264347078 : Int32)) ∈ hv_ws := wm (wc_4 (List.mem_of_getElem? (i := 52) rfl)) rfl
theorem q_4_53 : (Jvm.Cond.constant "BulletinOfficeModel" (26 : Nat) (604807628 : Int32)) ∈ hv_ws := wm (wc_4 (List.mem_of_getElem? (i := 53) rfl)) rfl
theorem q_4_54 : (Jvm.Cond.constant "BulletinOfficeModel" (27 : Nat) (770255983 : Int32)) ∈ hv_ws := wm (wc_4 (List.mem_of_getElem? (i := 54) rfl)) rfl
theorem q_4_55 : (Jvm.Cond.constant "BulletinOfficeModel" (28 : Nat) (1249150122 : Int32)) ∈ hv_ws := wm (wc_4 (List.mem_of_getElem? (i := 55) rfl)) rfl
theorem q_4_56 : (Jvm.Cond.constant "BulletinOfficeModel" (29 : Nat) (1555081692 : Int32)) ∈ hv_ws := wm (wc_4 (List.mem_of_getElem? (i := 56) rfl)) rfl
theorem q_4_57 : (Jvm.Cond.constant "BulletinOfficeModel" (30 : Nat) (1996064986 : Int32)) ∈ hv_ws := wm (wc_4 (List.mem_of_getElem? (i := 57) rfl)) rfl
theorem q_4_58 : (Jvm.Cond.constant "BulletinOfficeModel" (31 : Nat) (-1740746414 : Int32)) ∈ hv_ws := wm (wc_4 (List.mem_of_getElem? (i := 58) rfl)) rfl
theorem q_4_59 : (Jvm.Cond.constant "BulletinOfficeModel" (32 : Nat) (-1473132947 : Int32)) ∈ hv_ws := wm (wc_4 (List.mem_of_getElem? (i := 59) rfl)) rfl
theorem q_4_60 : (Jvm.Cond.constant "BulletinOfficeModel" (33 : Nat) (-1341970488 : Int32)) ∈ hv_ws := wm (wc_4 (List.mem_of_getElem? (i := 60) rfl)) rfl
theorem q_4_61 : (Jvm.Cond.constant "BulletinOfficeModel" (34 : Nat) (-1084653625 : Int32)) ∈ hv_ws := wm (wc_4 (List.mem_of_getElem? (i := 61) rfl)) rfl
theorem q_4_62 : (Jvm.Cond.constant "BulletinOfficeModel" (35 : Nat) (-958395405 : Int32)) ∈ hv_ws := wm (wc_4 (List.mem_of_getElem? (i := 62) rfl)) rfl
theorem q_4_63 : (Jvm.Cond.constant "BulletinOfficeModel" (36 : Nat) (-710438585 : Int32)) ∈ hv_ws := wm (wc_4 (List.mem_of_getElem? (i := 63) rfl)) rfl
theorem q_4_64 : (Jvm.Cond.constant "BulletinOfficeModel" (37 : Nat) (113926993 : Int32)) ∈ hv_ws := wm (wc_4 (List.mem_of_getElem? (i := 64) rfl)) rfl
theorem q_4_65 : (Jvm.Cond.constant "BulletinOfficeModel" (38 : Nat) (338241895 : Int32)) ∈ hv_ws := wm (wc_4 (List.mem_of_getElem? (i := 65) rfl)) rfl
theorem q_4_66 : (Jvm.Cond.constant "BulletinOfficeModel" (39 : Nat) (666307205 : Int32)) ∈ hv_ws := wm (wc_4 (List.mem_of_getElem? (i := 66) rfl)) rfl
theorem q_4_67 : (Jvm.Cond.constant "BulletinOfficeModel" (40 : Nat) (773529912 : Int32)) ∈ hv_ws := wm (wc_4 (List.mem_of_getElem? (i := 67) rfl)) rfl
theorem q_4_68 : (Jvm.Cond.constant "BulletinOfficeModel" (41 : Nat) (1294757372 : Int32)) ∈ hv_ws := wm (wc_4 (List.mem_of_getElem? (i := 68) rfl)) rfl
theorem q_4_69 : (Jvm.Cond.constant "BulletinOfficeModel" (42 : Nat) (1396182291 : Int32)) ∈ hv_ws := wm (wc_4 (List.mem_of_getElem? (i := 69) rfl)) rfl
theorem q_4_70 : (Jvm.Cond.constant "BulletinOfficeModel" (43 : Nat) (1695183700 : Int32)) ∈ hv_ws := wm (wc_4 (List.mem_of_getElem? (i := 70) rfl)) rfl
theorem q_4_71 : (Jvm.Cond.constant "BulletinOfficeModel" (44 : Nat) (1986661051 : Int32)) ∈ hv_ws := wm (wc_4 (List.mem_of_getElem? (i := 71) rfl)) rfl
theorem q_4_72 : (Jvm.Cond.constant "BulletinOfficeModel" (45 : Nat) (-2117940946 : Int32)) ∈ hv_ws := wm (wc_4 (List.mem_of_getElem? (i := 72) rfl)) rfl
theorem q_4_73 : (Jvm.Cond.constant "BulletinOfficeModel" (46 : Nat) (-1838011259 : Int32)) ∈ hv_ws := wm (wc_4 (List.mem_of_getElem? (i := 73) rfl)) rfl
theorem q_4_74 : (Jvm.Cond.constant "BulletinOfficeModel" (47 : Nat) (-1564481375 : Int32)) ∈ hv_ws := wm (wc_4 (List.mem_of_getElem? (i := 74) rfl)) rfl
theorem q_4_75 : (Jvm.Cond.constant "BulletinOfficeModel" (48 : Nat) (-1474664885 : Int32)) ∈ hv_ws := wm (wc_4 (List.mem_of_getElem? (i := 75) rfl)) rfl
theorem q_4_76 : (Jvm.Cond.constant "BulletinOfficeModel" (49 : Nat) (-1035236496 : Int32)) ∈ hv_ws := wm (wc_4 (List.mem_of_getElem? (i := 76) rfl)) rfl
theorem q_4_77 : (Jvm.Cond.constant "BulletinOfficeModel" (50 : Nat) (-949202525 : Int32)) ∈ hv_ws := wm (wc_4 (List.mem_of_getElem? (i := 77) rfl)) rfl
theorem q_4_78 : (Jvm.Cond.constant "BulletinOfficeModel" (51 : Nat) (-778901479 : Int32)) ∈ hv_ws := wm (wc_4 (List.mem_of_getElem? (i := 78) rfl)) rfl
theorem q_4_79 : (Jvm.Cond.constant "BulletinOfficeModel" (52 : Nat) (-694614492 : Int32)) ∈ hv_ws := wm (wc_4 (List.mem_of_getElem? (i := 79) rfl)) rfl
theorem q_4_80 : (Jvm.Cond.constant "BulletinOfficeModel" (53 : Nat) (-200395387 : Int32)) ∈ hv_ws := wm (wc_4 (List.mem_of_getElem? (i := 80) rfl)) rfl
theorem q_4_81 : (Jvm.Cond.constant "BulletinOfficeModel" (54 : Nat) (275423344 : Int32)) ∈ hv_ws := wm (wc_4 (List.mem_of_getElem? (i := 81) rfl)) rfl
theorem q_4_82 : (Jvm.Cond.constant "BulletinOfficeModel" (55 : Nat) (430227734 : Int32)) ∈ hv_ws := wm (wc_4 (List.mem_of_getElem? (i := 82) rfl)) rfl
theorem q_4_83 : (Jvm.Cond.constant "BulletinOfficeModel" (56 : Nat) (506948616 : Int32)) ∈ hv_ws := wm (wc_4 (List.mem_of_getElem? (i := 83) rfl)) rfl
theorem q_4_84 : (Jvm.Cond.constant "BulletinOfficeModel" (57 : Nat) (659060556 : Int32)) ∈ hv_ws := wm (wc_4 (List.mem_of_getElem? (i := 84) rfl)) rfl
theorem q_4_85 : (Jvm.Cond.constant "BulletinOfficeModel" (58 : Nat) (883997877 : Int32)) ∈ hv_ws := wm (wc_4 (List.mem_of_getElem? (i := 85) rfl)) rfl
theorem q_4_86 : (Jvm.Cond.constant "BulletinOfficeModel" (59 : Nat) (958139571 : Int32)) ∈ hv_ws := wm (wc_4 (List.mem_of_getElem? (i := 86) rfl)) rfl
theorem q_4_87 : (Jvm.Cond.constant "BulletinOfficeModel" (60 : Nat) (1322822218 : Int32)) ∈ hv_ws := wm (wc_4 (List.mem_of_getElem? (i := 87) rfl)) rfl
theorem q_4_88 : (Jvm.Cond.constant "BulletinOfficeModel" (61 : Nat) (1537002063 : Int32)) ∈ hv_ws := wm (wc_4 (List.mem_of_getElem? (i := 88) rfl)) rfl
theorem q_4_89 : (Jvm.Cond.constant "BulletinOfficeModel" (62 : Nat) (1747873779 : Int32)) ∈ hv_ws := wm (wc_4 (List.mem_of_getElem? (i := 89) rfl)) rfl
theorem q_4_90 : (Jvm.Cond.constant "BulletinOfficeModel" (63 : Nat) (1955562222 : Int32)) ∈ hv_ws := wm (wc_4 (List.mem_of_getElem? (i := 90) rfl)) rfl
theorem q_4_91 : (Jvm.Cond.constant "BulletinOfficeModel" (64 : Nat) (2024104815 : Int32)) ∈ hv_ws := wm (wc_4 (List.mem_of_getElem? (i := 91) rfl)) rfl
theorem q_4_92 : (Jvm.Cond.constant "BulletinOfficeModel" (65 : Nat) (-2067236844 : Int32)) ∈ hv_ws := wm (wc_4 (List.mem_of_getElem? (i := 92) rfl)) rfl
theorem q_4_93 : (Jvm.Cond.constant "BulletinOfficeModel" (66 : Nat) (-1933114872 : Int32)) ∈ hv_ws := wm (wc_4 (List.mem_of_getElem? (i := 93) rfl)) rfl
theorem q_4_94 : (Jvm.Cond.constant "BulletinOfficeModel" (67 : Nat) (-1866530822 : Int32)) ∈ hv_ws := wm (wc_4 (List.mem_of_getElem? (i := 94) rfl)) rfl
theorem q_4_95 : (Jvm.Cond.constant "BulletinOfficeModel" (68 : Nat) (-1538233109 : Int32)) ∈ hv_ws := wm (wc_4 (List.mem_of_getElem? (i := 95) rfl)) rfl
theorem q_4_96 : (Jvm.Cond.constant "BulletinOfficeModel" (69 : Nat) (-1090935817 : Int32)) ∈ hv_ws := wm (wc_4 (List.mem_of_getElem? (i := 96) rfl)) rfl
theorem q_4_97 : (Jvm.Cond.constant "BulletinOfficeModel" (70 : Nat) (-965641998 : Int32)) ∈ hv_ws := wm (wc_4 (List.mem_of_getElem? (i := 97) rfl)) rfl
theorem q_4_98 : (Jvm.Cond.constant "BulletinOfficeModel" (77 : Nat) (1779033703 : Int32)) ∈ hv_ws := wm (wc_4 (List.mem_of_getElem? (i := 98) rfl)) rfl
theorem q_4_99 : (Jvm.Cond.constant "BulletinOfficeModel" (78 : Nat) (-1150833019 : Int32)) ∈ hv_ws := wm (wc_4 (List.mem_of_getElem? (i := 99) rfl)) rfl
theorem q_4_100 : (Jvm.Cond.constant "BulletinOfficeModel" (79 : Nat) (1013904242 : Int32)) ∈ hv_ws := wm (wc_4 (List.mem_of_getElem? (i := 100) rfl)) rfl
theorem q_4_101 : (Jvm.Cond.constant "BulletinOfficeModel" (80 : Nat) (-1521486534 : Int32)) ∈ hv_ws := wm (wc_4 (List.mem_of_getElem? (i := 101) rfl)) rfl
theorem q_4_102 : (Jvm.Cond.constant "BulletinOfficeModel" (81 : Nat) (1359893119 : Int32)) ∈ hv_ws := wm (wc_4 (List.mem_of_getElem? (i := 102) rfl)) rfl
theorem q_4_103 : (Jvm.Cond.constant "BulletinOfficeModel" (82 : Nat) (-1694144372 : Int32)) ∈ hv_ws := wm (wc_4 (List.mem_of_getElem? (i := 103) rfl)) rfl
theorem q_4_104 : (Jvm.Cond.constant "BulletinOfficeModel" (83 : Nat) (528734635 : Int32)) ∈ hv_ws := wm (wc_4 (List.mem_of_getElem? (i := 104) rfl)) rfl
theorem q_4_105 : (Jvm.Cond.constant "BulletinOfficeModel" (84 : Nat) (1541459225 : Int32)) ∈ hv_ws := wm (wc_4 (List.mem_of_getElem? (i := 105) rfl)) rfl
theorem q_4_106 : (Jvm.Cond.constant "BulletinOfficeModel" (155 : Nat) (81920 : Int32)) ∈ hv_ws := wm (wc_4 (List.mem_of_getElem? (i := 106) rfl)) rfl
theorem q_4_107 : (Jvm.Cond.constant "BulletinOfficeModel" (162 : Nat) (54400 : Int32)) ∈ hv_ws := wm (wc_4 (List.mem_of_getElem? (i := 107) rfl)) rfl
theorem q_4_110 : (Jvm.Cond.code ({ cls := "BulletinOfficeModel", name := "modulo", desc := "(II)I" } : Jvm.MethodName) prog_8_method_4_code (2 : Nat) (Option.some Jvm.ClassFile.FieldType.int)) ∈ hv_ws := wm (wc_4 (List.mem_of_getElem? (i := 110) rfl)) rfl
theorem q_4_108 : (Jvm.Cond.methodLink "BulletinOfficeModel" (175 : Nat) ({ cls := "BulletinOfficeModel", name := "modulo", desc := "(II)I" } : Jvm.MethodName)) ∈ hv_ws := wm (wc_4 (List.mem_of_getElem? (i := 108) rfl)) rfl
theorem cs_Md_175 : hv_cs "BulletinOfficeModel" 175 y_Md_modulo b_Md_modulo 2 (some (.int)) 2 := ⟨q_4_110, q_1_10, ⟨by decide, by decide⟩, by decide +kernel, Or.inl q_4_108⟩
theorem q_4_109 : (Jvm.Cond.static ({ cls := "BulletinOfficeModel", name := "modulo", desc := "(II)I" } : Jvm.MethodName)) ∈ hv_ws := wm (wc_4 (List.mem_of_getElem? (i := 109) rfl)) rfl
theorem fp_Md_186 : hv_fp "BulletinOfficeModel" 186 6 15 (.int) false := ⟨R6, T6, 40, "BulletinOfficeModel", ty6, rfl, hin6, by decide, Or.inl q_4_126, Or.inl rfl, tk6, nm6, rfl, (fun h => by cases h), tk6 15 (by decide)⟩
theorem fp_Md_183 : hv_fp "BulletinOfficeModel" 183 6 14 (.int) false := ⟨R6, T6, 40, "BulletinOfficeModel", ty6, rfl, hin6, by decide, Or.inl q_4_125, Or.inl rfl, tk6, nm6, rfl, (fun h => by cases h), tk6 14 (by decide)⟩
theorem fp_Md_179 : hv_fp "BulletinOfficeModel" 179 6 13 (.int) false := ⟨R6, T6, 40, "BulletinOfficeModel", ty6, rfl, hin6, by decide, Or.inl q_4_124, Or.inl rfl, tk6, nm6, rfl, (fun h => by cases h), tk6 13 (by decide)⟩
theorem fp_Md_172 : hv_fp "BulletinOfficeModel" 172 6 39 (.array (.int)) true := ⟨R6, T6, 40, "BulletinOfficeModel", ty6, rfl, hin6, by decide, Or.inl q_4_150, Or.inl rfl, tk6, nm6, rfl, (fun _ => rfl), tk6 39 (by decide)⟩
theorem fp_Md_169 : hv_fp "BulletinOfficeModel" 169 6 38 (.array (.int)) true := ⟨R6, T6, 40, "BulletinOfficeModel", ty6, rfl, hin6, by decide, Or.inl q_4_149, Or.inl rfl, tk6, nm6, rfl, (fun _ => rfl), tk6 38 (by decide)⟩
theorem fp_Md_166 : hv_fp "BulletinOfficeModel" 166 6 37 (.array (.int)) true := ⟨R6, T6, 40, "BulletinOfficeModel", ty6, rfl, hin6, by decide, Or.inl q_4_148, Or.inl rfl, tk6, nm6, rfl, (fun _ => rfl), tk6 37 (by decide)⟩
theorem fp_Md_163 : hv_fp "BulletinOfficeModel" 163 6 36 (.array (.int)) true := ⟨R6, T6, 40, "BulletinOfficeModel", ty6, rfl, hin6, by decide, Or.inl q_4_147, Or.inl rfl, tk6, nm6, rfl, (fun _ => rfl), tk6 36 (by decide)⟩
theorem fp_Md_159 : hv_fp "BulletinOfficeModel" 159 6 35 (.array (.int)) true := ⟨R6, T6, 40, "BulletinOfficeModel", ty6, rfl, hin6, by decide, Or.inl q_4_146, Or.inl rfl, tk6, nm6, rfl, (fun _ => rfl), tk6 35 (by decide)⟩
theorem fp_Md_156 : hv_fp "BulletinOfficeModel" 156 6 34 (.array (.int)) true := ⟨R6, T6, 40, "BulletinOfficeModel", ty6, rfl, hin6, by decide, Or.inl q_4_145, Or.inl rfl, tk6, nm6, rfl, (fun _ => rfl), tk6 34 (by decide)⟩
theorem fp_Md_152 : hv_fp "BulletinOfficeModel" 152 6 33 (.array (.int)) true := ⟨R6, T6, 40, "BulletinOfficeModel", ty6, rfl, hin6, by decide, Or.inl q_4_144, Or.inl rfl, tk6, nm6, rfl, (fun _ => rfl), tk6 33 (by decide)⟩
theorem fp_Md_149 : hv_fp "BulletinOfficeModel" 149 6 32 (.array (.int)) true := ⟨R6, T6, 40, "BulletinOfficeModel", ty6, rfl, hin6, by decide, Or.inl q_4_143, Or.inl rfl, tk6, nm6, rfl, (fun _ => rfl), tk6 32 (by decide)⟩
theorem fp_Md_146 : hv_fp "BulletinOfficeModel" 146 6 31 (.array (.int)) true := ⟨R6, T6, 40, "BulletinOfficeModel", ty6, rfl, hin6, by decide, Or.inl q_4_142, Or.inl rfl, tk6, nm6, rfl, (fun _ => rfl), tk6 31 (by decide)⟩
theorem fp_Md_143 : hv_fp "BulletinOfficeModel" 143 6 30 (.array (.int)) true := ⟨R6, T6, 40, "BulletinOfficeModel", ty6, rfl, hin6, by decide, Or.inl q_4_141, Or.inl rfl, tk6, nm6, rfl, (fun _ => rfl), tk6 30 (by decide)⟩
theorem fp_Md_140 : hv_fp "BulletinOfficeModel" 140 6 29 (.array (.int)) true := ⟨R6, T6, 40, "BulletinOfficeModel", ty6, rfl, hin6, by decide, Or.inl q_4_140, Or.inl rfl, tk6, nm6, rfl, (fun _ => rfl), tk6 29 (by decide)⟩
theorem fp_Md_137 : hv_fp "BulletinOfficeModel" 137 6 28 (.array (.int)) true := ⟨R6, T6, 40, "BulletinOfficeModel", ty6, rfl, hin6, by decide, Or.inl q_4_139, Or.inl rfl, tk6, nm6, rfl, (fun _ => rfl), tk6 28 (by decide)⟩
theorem fp_Md_134 : hv_fp "BulletinOfficeModel" 134 6 27 (.array (.int)) true := ⟨R6, T6, 40, "BulletinOfficeModel", ty6, rfl, hin6, by decide, Or.inl q_4_138, Or.inl rfl, tk6, nm6, rfl, (fun _ => rfl), tk6 27 (by decide)⟩
theorem fp_Md_131 : hv_fp "BulletinOfficeModel" 131 6 26 (.array (.int)) true := ⟨R6, T6, 40, "BulletinOfficeModel", ty6, rfl, hin6, by decide, Or.inl q_4_137, Or.inl rfl, tk6, nm6, rfl, (fun _ => rfl), tk6 26 (by decide)⟩
theorem fp_Md_128 : hv_fp "BulletinOfficeModel" 128 6 25 (.array (.int)) true := ⟨R6, T6, 40, "BulletinOfficeModel", ty6, rfl, hin6, by decide, Or.inl q_4_136, Or.inl rfl, tk6, nm6, rfl, (fun _ => rfl), tk6 25 (by decide)⟩
theorem fp_Md_124 : hv_fp "BulletinOfficeModel" 124 6 24 (.array (.boolean)) true := ⟨R6, T6, 40, "BulletinOfficeModel", ty6, rfl, hin6, by decide, Or.inl q_4_135, Or.inl rfl, tk6, nm6, rfl, (fun _ => rfl), tk6 24 (by decide)⟩
theorem q_4_232 : (Jvm.Cond.arrayClass Jvm.ClassFile.FieldType.boolean) ∈ hv_ws := wm (wc_4 (List.mem_of_getElem? (i := 232) rfl)) rfl
theorem fp_Md_121 : hv_fp "BulletinOfficeModel" 121 6 23 (.array (.int)) true := ⟨R6, T6, 40, "BulletinOfficeModel", ty6, rfl, hin6, by decide, Or.inl q_4_134, Or.inl rfl, tk6, nm6, rfl, (fun _ => rfl), tk6 23 (by decide)⟩
theorem fp_Md_118 : hv_fp "BulletinOfficeModel" 118 6 22 (.array (.int)) true := ⟨R6, T6, 40, "BulletinOfficeModel", ty6, rfl, hin6, by decide, Or.inl q_4_133, Or.inl rfl, tk6, nm6, rfl, (fun _ => rfl), tk6 22 (by decide)⟩
theorem fp_Md_115 : hv_fp "BulletinOfficeModel" 115 6 21 (.array (.int)) true := ⟨R6, T6, 40, "BulletinOfficeModel", ty6, rfl, hin6, by decide, Or.inl q_4_132, Or.inl rfl, tk6, nm6, rfl, (fun _ => rfl), tk6 21 (by decide)⟩
theorem fp_Md_112 : hv_fp "BulletinOfficeModel" 112 6 20 (.array (.int)) true := ⟨R6, T6, 40, "BulletinOfficeModel", ty6, rfl, hin6, by decide, Or.inl q_4_131, Or.inl rfl, tk6, nm6, rfl, (fun _ => rfl), tk6 20 (by decide)⟩
theorem fp_Md_109 : hv_fp "BulletinOfficeModel" 109 6 19 (.array (.int)) true := ⟨R6, T6, 40, "BulletinOfficeModel", ty6, rfl, hin6, by decide, Or.inl q_4_130, Or.inl rfl, tk6, nm6, rfl, (fun _ => rfl), tk6 19 (by decide)⟩
theorem fp_Md_106 : hv_fp "BulletinOfficeModel" 106 6 11 (.array (.int)) true := ⟨R6, T6, 40, "BulletinOfficeModel", ty6, rfl, hin6, by decide, Or.inl q_4_122, Or.inl rfl, tk6, nm6, rfl, (fun _ => rfl), tk6 11 (by decide)⟩
theorem fp_Md_103 : hv_fp "BulletinOfficeModel" 103 6 9 (.array (.int)) true := ⟨R6, T6, 40, "BulletinOfficeModel", ty6, rfl, hin6, by decide, Or.inl q_4_120, Or.inl rfl, tk6, nm6, rfl, (fun _ => rfl), tk6 9 (by decide)⟩
theorem fp_Md_100 : hv_fp "BulletinOfficeModel" 100 6 7 (.array (.int)) true := ⟨R6, T6, 40, "BulletinOfficeModel", ty6, rfl, hin6, by decide, Or.inl q_4_118, Or.inl rfl, tk6, nm6, rfl, (fun _ => rfl), tk6 7 (by decide)⟩
theorem fp_Md_97 : hv_fp "BulletinOfficeModel" 97 6 5 (.array (.int)) true := ⟨R6, T6, 40, "BulletinOfficeModel", ty6, rfl, hin6, by decide, Or.inl q_4_116, Or.inl rfl, tk6, nm6, rfl, (fun _ => rfl), tk6 5 (by decide)⟩
theorem fp_Md_94 : hv_fp "BulletinOfficeModel" 94 6 4 (.array (.int)) true := ⟨R6, T6, 40, "BulletinOfficeModel", ty6, rfl, hin6, by decide, Or.inl q_4_115, Or.inl rfl, tk6, nm6, rfl, (fun _ => rfl), tk6 4 (by decide)⟩
theorem fp_Md_91 : hv_fp "BulletinOfficeModel" 91 6 3 (.array (.int)) true := ⟨R6, T6, 40, "BulletinOfficeModel", ty6, rfl, hin6, by decide, Or.inl q_4_114, Or.inl rfl, tk6, nm6, rfl, (fun _ => rfl), tk6 3 (by decide)⟩
theorem fp_Md_88 : hv_fp "BulletinOfficeModel" 88 6 2 (.array (.int)) true := ⟨R6, T6, 40, "BulletinOfficeModel", ty6, rfl, hin6, by decide, Or.inl q_4_113, Or.inl rfl, tk6, nm6, rfl, (fun _ => rfl), tk6 2 (by decide)⟩
theorem fp_Md_85 : hv_fp "BulletinOfficeModel" 85 6 1 (.array (.int)) true := ⟨R6, T6, 40, "BulletinOfficeModel", ty6, rfl, hin6, by decide, Or.inl q_4_112, Or.inl rfl, tk6, nm6, rfl, (fun _ => rfl), tk6 1 (by decide)⟩
theorem fp_Md_71 : hv_fp "BulletinOfficeModel" 71 6 0 (.array (.int)) true := ⟨R6, T6, 40, "BulletinOfficeModel", ty6, rfl, hin6, by decide, Or.inl q_4_111, Or.inl rfl, tk6, nm6, rfl, (fun _ => rfl), tk6 0 (by decide)⟩
theorem q_4_33 : (Jvm.Cond.methodLink "BulletinOfficeModel" (1 : Nat) ({ cls := "java/lang/Object", name := "<init>", desc := "()V" } : Jvm.MethodName)) ∈ hv_ws := wm (wc_4 (List.mem_of_getElem? (i := 33) rfl)) rfl
