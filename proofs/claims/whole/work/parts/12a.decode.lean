theorem d_Ac_init_0 : decode b_Ac_init 0 = .ok (.aload_n 0, 1) := by decide +kernel
theorem d_Ac_init_1 : decode b_Ac_init 1 = .ok (.invokespecial 1, 3) := by decide +kernel
theorem d_Ac_init_4 : decode b_Ac_init 4 = .ok (.return_, 1) := by decide +kernel
theorem d_Ab_init_0 : decode b_Ab_init 0 = .ok (.aload_n 0, 1) := by decide +kernel
theorem d_Ab_init_1 : decode b_Ab_init 1 = .ok (.invokespecial 1, 3) := by decide +kernel
theorem d_Ab_init_4 : decode b_Ab_init 4 = .ok (.aload_n 0, 1) := by decide +kernel
theorem d_Ab_init_5 : decode b_Ab_init 5 = .ok (.iconst 0, 1) := by decide +kernel
theorem d_Ab_init_6 : decode b_Ab_init 6 = .ok (.putfield 7, 3) := by decide +kernel
theorem d_Ab_init_9 : decode b_Ab_init 9 = .ok (.return_, 1) := by decide +kernel
theorem d_Al_init_0 : decode b_Al_init 0 = .ok (.aload_n 0, 1) := by decide +kernel
theorem d_Al_init_1 : decode b_Al_init 1 = .ok (.invokespecial 1, 3) := by decide +kernel
theorem d_Al_init_4 : decode b_Al_init 4 = .ok (.aload_n 0, 1) := by decide +kernel
theorem d_Al_init_5 : decode b_Al_init 5 = .ok (.getstatic 39, 3) := by decide +kernel
theorem d_Al_init_8 : decode b_Al_init 8 = .ok (.putfield 9, 3) := by decide +kernel
theorem d_Al_init_11 : decode b_Al_init 11 = .ok (.return_, 1) := by decide +kernel
theorem d_Al_size_0 : decode b_Al_size 0 = .ok (.aload_n 0, 1) := by decide +kernel
theorem d_Al_size_1 : decode b_Al_size 1 = .ok (.getfield 48, 3) := by decide +kernel
theorem d_Al_size_4 : decode b_Al_size 4 = .ok (.ireturn, 1) := by decide +kernel
theorem d_As_newLength_0 : decode b_As_newLength 0 = .ok (.iload_n 0, 1) := by decide +kernel
theorem d_As_newLength_1 : decode b_As_newLength 1 = .ok (.iload_n 1, 1) := by decide +kernel
theorem d_As_newLength_2 : decode b_As_newLength 2 = .ok (.iload_n 2, 1) := by decide +kernel
theorem d_As_newLength_3 : decode b_As_newLength 3 = .ok (.invokestatic 194, 3) := by decide +kernel
theorem d_As_newLength_6 : decode b_As_newLength 6 = .ok (.iadd, 1) := by decide +kernel
theorem d_As_newLength_7 : decode b_As_newLength 7 = .ok (.istore_n 3, 1) := by decide +kernel
theorem d_As_newLength_8 : decode b_As_newLength 8 = .ok (.iconst 0, 1) := by decide +kernel
theorem d_As_newLength_9 : decode b_As_newLength 9 = .ok (.iload_n 3, 1) := by decide +kernel
theorem d_As_newLength_10 : decode b_As_newLength 10 = .ok (.if_icmp .ge 11, 3) := by decide +kernel
theorem d_As_newLength_13 : decode b_As_newLength 13 = .ok (.iload_n 3, 1) := by decide +kernel
theorem d_As_newLength_14 : decode b_As_newLength 14 = .ok (.ldc 200, 2) := by decide +kernel
theorem d_As_newLength_16 : decode b_As_newLength 16 = .ok (.if_icmp .gt 5, 3) := by decide +kernel
theorem d_As_newLength_19 : decode b_As_newLength 19 = .ok (.iload_n 3, 1) := by decide +kernel
theorem d_As_newLength_20 : decode b_As_newLength 20 = .ok (.ireturn, 1) := by decide +kernel
theorem d_As_newLength_21 : decode b_As_newLength 21 = .ok (.iload_n 0, 1) := by decide +kernel
theorem d_As_newLength_22 : decode b_As_newLength 22 = .ok (.iload_n 1, 1) := by decide +kernel
theorem d_As_newLength_23 : decode b_As_newLength 23 = .ok (.invokestatic 201, 3) := by decide +kernel
theorem d_As_newLength_26 : decode b_As_newLength 26 = .ok (.ireturn, 1) := by decide +kernel
theorem d_Ar_copyOf2_0 : decode b_Ar_copyOf2 0 = .ok (.aload_n 2, 1) := by decide +kernel
theorem d_Ar_copyOf2_1 : decode b_Ar_copyOf2 1 = .ok (.ldc 110, 2) := by decide +kernel
theorem d_Ar_copyOf2_3 : decode b_Ar_copyOf2 3 = .ok (.if_acmp .ne 10, 3) := by decide +kernel
theorem d_Ar_copyOf2_6 : decode b_Ar_copyOf2 6 = .ok (.iload_n 1, 1) := by decide +kernel
theorem d_Ar_copyOf2_7 : decode b_Ar_copyOf2 7 = .ok (.anewarray 2, 3) := by decide +kernel
theorem d_Ar_copyOf2_10 : decode b_Ar_copyOf2 10 = .ok (.goto 14, 3) := by decide +kernel
theorem d_Ar_copyOf2_13 : decode b_Ar_copyOf2 13 = .ok (.aload_n 2, 1) := by decide +kernel
theorem d_Ar_copyOf2_14 : decode b_Ar_copyOf2 14 = .ok (.invokevirtual 90, 3) := by decide +kernel
theorem d_Ar_copyOf2_17 : decode b_Ar_copyOf2 17 = .ok (.iload_n 1, 1) := by decide +kernel
theorem d_Ar_copyOf2_18 : decode b_Ar_copyOf2 18 = .ok (.invokestatic 95, 3) := by decide +kernel
theorem d_Ar_copyOf2_21 : decode b_Ar_copyOf2 21 = .ok (.checkcast 110, 3) := by decide +kernel
theorem d_Ar_copyOf2_24 : decode b_Ar_copyOf2 24 = .ok (.astore_n 3, 1) := by decide +kernel
theorem d_Ar_copyOf2_25 : decode b_Ar_copyOf2 25 = .ok (.aload_n 0, 1) := by decide +kernel
theorem d_Ar_copyOf2_26 : decode b_Ar_copyOf2 26 = .ok (.iconst 0, 1) := by decide +kernel
theorem d_Ar_copyOf2_27 : decode b_Ar_copyOf2 27 = .ok (.aload_n 3, 1) := by decide +kernel
theorem d_Ar_copyOf2_28 : decode b_Ar_copyOf2 28 = .ok (.iconst 0, 1) := by decide +kernel
theorem d_Ar_copyOf2_29 : decode b_Ar_copyOf2 29 = .ok (.aload_n 0, 1) := by decide +kernel
theorem d_Ar_copyOf2_30 : decode b_Ar_copyOf2 30 = .ok (.arraylength, 1) := by decide +kernel
theorem d_Ar_copyOf2_31 : decode b_Ar_copyOf2 31 = .ok (.iload_n 1, 1) := by decide +kernel
theorem d_Ar_copyOf2_32 : decode b_Ar_copyOf2 32 = .ok (.invokestatic 304, 3) := by decide +kernel
theorem d_Ar_copyOf2_35 : decode b_Ar_copyOf2 35 = .ok (.invokestatic 150, 3) := by decide +kernel
theorem d_Ar_copyOf2_38 : decode b_Ar_copyOf2 38 = .ok (.aload_n 3, 1) := by decide +kernel
theorem d_Ar_copyOf2_39 : decode b_Ar_copyOf2 39 = .ok (.areturn, 1) := by decide +kernel
theorem d_Ar_copyOf1_0 : decode b_Ar_copyOf1 0 = .ok (.aload_n 0, 1) := by decide +kernel
theorem d_Ar_copyOf1_1 : decode b_Ar_copyOf1 1 = .ok (.iload_n 1, 1) := by decide +kernel
theorem d_Ar_copyOf1_2 : decode b_Ar_copyOf1 2 = .ok (.aload_n 0, 1) := by decide +kernel
theorem d_Ar_copyOf1_3 : decode b_Ar_copyOf1 3 = .ok (.invokevirtual 86, 3) := by decide +kernel
theorem d_Ar_copyOf1_6 : decode b_Ar_copyOf1 6 = .ok (.invokestatic 300, 3) := by decide +kernel
theorem d_Ar_copyOf1_9 : decode b_Ar_copyOf1 9 = .ok (.areturn, 1) := by decide +kernel
theorem d_Al_grow2_0 : decode b_Al_grow2 0 = .ok (.aload_n 0, 1) := by decide +kernel
theorem d_Al_grow2_1 : decode b_Al_grow2 1 = .ok (.getfield 9, 3) := by decide +kernel
theorem d_Al_grow2_4 : decode b_Al_grow2 4 = .ok (.arraylength, 1) := by decide +kernel
theorem d_Al_grow2_5 : decode b_Al_grow2 5 = .ok (.istore_n 2, 1) := by decide +kernel
theorem d_Al_grow2_6 : decode b_Al_grow2 6 = .ok (.iload_n 2, 1) := by decide +kernel
theorem d_Al_grow2_7 : decode b_Al_grow2 7 = .ok (.ifCond .gt 13, 3) := by decide +kernel
theorem d_Al_grow2_10 : decode b_Al_grow2 10 = .ok (.aload_n 0, 1) := by decide +kernel
theorem d_Al_grow2_11 : decode b_Al_grow2 11 = .ok (.getfield 9, 3) := by decide +kernel
theorem d_Al_grow2_14 : decode b_Al_grow2 14 = .ok (.getstatic 39, 3) := by decide +kernel
theorem d_Al_grow2_17 : decode b_Al_grow2 17 = .ok (.if_acmp .eq 28, 3) := by decide +kernel
theorem d_Al_grow2_20 : decode b_Al_grow2 20 = .ok (.iload_n 2, 1) := by decide +kernel
theorem d_Al_grow2_21 : decode b_Al_grow2 21 = .ok (.iload_n 1, 1) := by decide +kernel
theorem d_Al_grow2_22 : decode b_Al_grow2 22 = .ok (.iload_n 2, 1) := by decide +kernel
theorem d_Al_grow2_23 : decode b_Al_grow2 23 = .ok (.isub, 1) := by decide +kernel
theorem d_Al_grow2_24 : decode b_Al_grow2 24 = .ok (.iload_n 2, 1) := by decide +kernel
theorem d_Al_grow2_25 : decode b_Al_grow2 25 = .ok (.iconst 1, 1) := by decide +kernel
theorem d_Al_grow2_26 : decode b_Al_grow2 26 = .ok (.ishr, 1) := by decide +kernel
theorem d_Al_grow2_27 : decode b_Al_grow2 27 = .ok (.invokestatic 73, 3) := by decide +kernel
theorem d_Al_grow2_30 : decode b_Al_grow2 30 = .ok (.istore_n 3, 1) := by decide +kernel
theorem d_Al_grow2_31 : decode b_Al_grow2 31 = .ok (.aload_n 0, 1) := by decide +kernel
theorem d_Al_grow2_32 : decode b_Al_grow2 32 = .ok (.aload_n 0, 1) := by decide +kernel
theorem d_Al_grow2_33 : decode b_Al_grow2 33 = .ok (.getfield 9, 3) := by decide +kernel
theorem d_Al_grow2_36 : decode b_Al_grow2 36 = .ok (.iload_n 3, 1) := by decide +kernel
theorem d_Al_grow2_37 : decode b_Al_grow2 37 = .ok (.invokestatic 66, 3) := by decide +kernel
theorem d_Al_grow2_40 : decode b_Al_grow2 40 = .ok (.dup_x1, 1) := by decide +kernel
theorem d_Al_grow2_41 : decode b_Al_grow2 41 = .ok (.putfield 9, 3) := by decide +kernel
theorem d_Al_grow2_44 : decode b_Al_grow2 44 = .ok (.areturn, 1) := by decide +kernel
theorem d_Al_grow2_45 : decode b_Al_grow2 45 = .ok (.aload_n 0, 1) := by decide +kernel
theorem d_Al_grow2_46 : decode b_Al_grow2 46 = .ok (.bipush 10, 2) := by decide +kernel
theorem d_Al_grow2_48 : decode b_Al_grow2 48 = .ok (.iload_n 1, 1) := by decide +kernel
theorem d_Al_grow2_49 : decode b_Al_grow2 49 = .ok (.invokestatic 79, 3) := by decide +kernel
theorem d_Al_grow2_52 : decode b_Al_grow2 52 = .ok (.anewarray 7, 3) := by decide +kernel
theorem d_Al_grow2_55 : decode b_Al_grow2 55 = .ok (.dup_x1, 1) := by decide +kernel
theorem d_Al_grow2_56 : decode b_Al_grow2 56 = .ok (.putfield 9, 3) := by decide +kernel
theorem d_Al_grow2_59 : decode b_Al_grow2 59 = .ok (.areturn, 1) := by decide +kernel
theorem d_Al_grow1_0 : decode b_Al_grow1 0 = .ok (.aload_n 0, 1) := by decide +kernel
theorem d_Al_grow1_1 : decode b_Al_grow1 1 = .ok (.aload_n 0, 1) := by decide +kernel
theorem d_Al_grow1_2 : decode b_Al_grow1 2 = .ok (.getfield 48, 3) := by decide +kernel
theorem d_Al_grow1_5 : decode b_Al_grow1 5 = .ok (.iconst 1, 1) := by decide +kernel
theorem d_Al_grow1_6 : decode b_Al_grow1 6 = .ok (.iadd, 1) := by decide +kernel
theorem d_Al_grow1_7 : decode b_Al_grow1 7 = .ok (.invokevirtual 69, 3) := by decide +kernel
theorem d_Al_grow1_10 : decode b_Al_grow1 10 = .ok (.areturn, 1) := by decide +kernel
theorem d_Al_add2_0 : decode b_Al_add2 0 = .ok (.iload_n 3, 1) := by decide +kernel
theorem d_Al_add2_1 : decode b_Al_add2 1 = .ok (.aload_n 2, 1) := by decide +kernel
theorem d_Al_add2_2 : decode b_Al_add2 2 = .ok (.arraylength, 1) := by decide +kernel
theorem d_Al_add2_3 : decode b_Al_add2 3 = .ok (.if_icmp .ne 8, 3) := by decide +kernel
theorem d_Al_add2_6 : decode b_Al_add2 6 = .ok (.aload_n 0, 1) := by decide +kernel
theorem d_Al_add2_7 : decode b_Al_add2 7 = .ok (.invokevirtual 129, 3) := by decide +kernel
theorem d_Al_add2_10 : decode b_Al_add2 10 = .ok (.astore_n 2, 1) := by decide +kernel
theorem d_Al_add2_11 : decode b_Al_add2 11 = .ok (.aload_n 2, 1) := by decide +kernel
theorem d_Al_add2_12 : decode b_Al_add2 12 = .ok (.iload_n 3, 1) := by decide +kernel
theorem d_Al_add2_13 : decode b_Al_add2 13 = .ok (.aload_n 1, 1) := by decide +kernel
theorem d_Al_add2_14 : decode b_Al_add2 14 = .ok (.aastore, 1) := by decide +kernel
theorem d_Al_add2_15 : decode b_Al_add2 15 = .ok (.aload_n 0, 1) := by decide +kernel
theorem d_Al_add2_16 : decode b_Al_add2 16 = .ok (.iload_n 3, 1) := by decide +kernel
theorem d_Al_add2_17 : decode b_Al_add2 17 = .ok (.iconst 1, 1) := by decide +kernel
theorem d_Al_add2_18 : decode b_Al_add2 18 = .ok (.iadd, 1) := by decide +kernel
theorem d_Al_add2_19 : decode b_Al_add2 19 = .ok (.putfield 48, 3) := by decide +kernel
theorem d_Al_add2_22 : decode b_Al_add2 22 = .ok (.return_, 1) := by decide +kernel
theorem d_Al_add1_0 : decode b_Al_add1 0 = .ok (.aload_n 0, 1) := by decide +kernel
theorem d_Al_add1_1 : decode b_Al_add1 1 = .ok (.dup, 1) := by decide +kernel
theorem d_Al_add1_2 : decode b_Al_add1 2 = .ok (.getfield 63, 3) := by decide +kernel
theorem d_Al_add1_5 : decode b_Al_add1 5 = .ok (.iconst 1, 1) := by decide +kernel
theorem d_Al_add1_6 : decode b_Al_add1 6 = .ok (.iadd, 1) := by decide +kernel
theorem d_Al_add1_7 : decode b_Al_add1 7 = .ok (.putfield 63, 3) := by decide +kernel
theorem d_Al_add1_10 : decode b_Al_add1 10 = .ok (.aload_n 0, 1) := by decide +kernel
theorem d_Al_add1_11 : decode b_Al_add1 11 = .ok (.aload_n 1, 1) := by decide +kernel
theorem d_Al_add1_12 : decode b_Al_add1 12 = .ok (.aload_n 0, 1) := by decide +kernel
theorem d_Al_add1_13 : decode b_Al_add1 13 = .ok (.getfield 9, 3) := by decide +kernel
theorem d_Al_add1_16 : decode b_Al_add1 16 = .ok (.aload_n 0, 1) := by decide +kernel
theorem d_Al_add1_17 : decode b_Al_add1 17 = .ok (.getfield 48, 3) := by decide +kernel
theorem d_Al_add1_20 : decode b_Al_add1 20 = .ok (.invokevirtual 131, 3) := by decide +kernel
theorem d_Al_add1_23 : decode b_Al_add1 23 = .ok (.iconst 1, 1) := by decide +kernel
theorem d_Al_add1_24 : decode b_Al_add1 24 = .ok (.ireturn, 1) := by decide +kernel
theorem d_Pc_checkIndex_0 : decode b_Pc_checkIndex 0 = .ok (.iload_n 0, 1) := by decide +kernel
theorem d_Pc_checkIndex_1 : decode b_Pc_checkIndex 1 = .ok (.ifCond .lt 8, 3) := by decide +kernel
theorem d_Pc_checkIndex_4 : decode b_Pc_checkIndex 4 = .ok (.iload_n 0, 1) := by decide +kernel
theorem d_Pc_checkIndex_5 : decode b_Pc_checkIndex 5 = .ok (.iload_n 1, 1) := by decide +kernel
theorem d_Pc_checkIndex_6 : decode b_Pc_checkIndex 6 = .ok (.if_icmp .lt 10, 3) := by decide +kernel
theorem d_Pc_checkIndex_9 : decode b_Pc_checkIndex 9 = .ok (.aload_n 2, 1) := by decide +kernel
theorem d_Pc_checkIndex_10 : decode b_Pc_checkIndex 10 = .ok (.iload_n 0, 1) := by decide +kernel
theorem d_Pc_checkIndex_11 : decode b_Pc_checkIndex 11 = .ok (.iload_n 1, 1) := by decide +kernel
theorem d_Pc_checkIndex_12 : decode b_Pc_checkIndex 12 = .ok (.invokestatic 95, 3) := by decide +kernel
theorem d_Pc_checkIndex_15 : decode b_Pc_checkIndex 15 = .ok (.athrow, 1) := by decide +kernel
theorem d_Pc_checkIndex_16 : decode b_Pc_checkIndex 16 = .ok (.iload_n 0, 1) := by decide +kernel
theorem d_Pc_checkIndex_17 : decode b_Pc_checkIndex 17 = .ok (.ireturn, 1) := by decide +kernel
theorem d_Ob_checkIndex_0 : decode b_Ob_checkIndex 0 = .ok (.iload_n 0, 1) := by decide +kernel
theorem d_Ob_checkIndex_1 : decode b_Ob_checkIndex 1 = .ok (.iload_n 1, 1) := by decide +kernel
theorem d_Ob_checkIndex_2 : decode b_Ob_checkIndex 2 = .ok (.aconst_null, 1) := by decide +kernel
theorem d_Ob_checkIndex_3 : decode b_Ob_checkIndex 3 = .ok (.invokestatic 105, 3) := by decide +kernel
theorem d_Ob_checkIndex_6 : decode b_Ob_checkIndex 6 = .ok (.ireturn, 1) := by decide +kernel
theorem d_Al_elementData_0 : decode b_Al_elementData 0 = .ok (.aload_n 0, 1) := by decide +kernel
theorem d_Al_elementData_1 : decode b_Al_elementData 1 = .ok (.getfield 9, 3) := by decide +kernel
theorem d_Al_elementData_4 : decode b_Al_elementData 4 = .ok (.iload_n 1, 1) := by decide +kernel
theorem d_Al_elementData_5 : decode b_Al_elementData 5 = .ok (.aaload, 1) := by decide +kernel
theorem d_Al_elementData_6 : decode b_Al_elementData 6 = .ok (.areturn, 1) := by decide +kernel
theorem d_Al_get_0 : decode b_Al_get 0 = .ok (.iload_n 1, 1) := by decide +kernel
theorem d_Al_get_1 : decode b_Al_get 1 = .ok (.aload_n 0, 1) := by decide +kernel
theorem d_Al_get_2 : decode b_Al_get 2 = .ok (.getfield 48, 3) := by decide +kernel
theorem d_Al_get_5 : decode b_Al_get 5 = .ok (.invokestatic 118, 3) := by decide +kernel
theorem d_Al_get_8 : decode b_Al_get 8 = .ok (.pop, 1) := by decide +kernel
theorem d_Al_get_9 : decode b_Al_get 9 = .ok (.aload_n 0, 1) := by decide +kernel
theorem d_Al_get_10 : decode b_Al_get 10 = .ok (.iload_n 1, 1) := by decide +kernel
theorem d_Al_get_11 : decode b_Al_get 11 = .ok (.invokevirtual 123, 3) := by decide +kernel
theorem d_Al_get_14 : decode b_Al_get 14 = .ok (.areturn, 1) := by decide +kernel
theorem d_Al_clear_0 : decode b_Al_clear 0 = .ok (.aload_n 0, 1) := by decide +kernel
theorem d_Al_clear_1 : decode b_Al_clear 1 = .ok (.dup, 1) := by decide +kernel
theorem d_Al_clear_2 : decode b_Al_clear 2 = .ok (.getfield 63, 3) := by decide +kernel
theorem d_Al_clear_5 : decode b_Al_clear 5 = .ok (.iconst 1, 1) := by decide +kernel
theorem d_Al_clear_6 : decode b_Al_clear 6 = .ok (.iadd, 1) := by decide +kernel
theorem d_Al_clear_7 : decode b_Al_clear 7 = .ok (.putfield 63, 3) := by decide +kernel
theorem d_Al_clear_10 : decode b_Al_clear 10 = .ok (.aload_n 0, 1) := by decide +kernel
theorem d_Al_clear_11 : decode b_Al_clear 11 = .ok (.getfield 9, 3) := by decide +kernel
theorem d_Al_clear_14 : decode b_Al_clear 14 = .ok (.astore_n 1, 1) := by decide +kernel
theorem d_Al_clear_15 : decode b_Al_clear 15 = .ok (.aload_n 0, 1) := by decide +kernel
theorem d_Al_clear_16 : decode b_Al_clear 16 = .ok (.getfield 48, 3) := by decide +kernel
theorem d_Al_clear_19 : decode b_Al_clear 19 = .ok (.istore_n 2, 1) := by decide +kernel
theorem d_Al_clear_20 : decode b_Al_clear 20 = .ok (.aload_n 0, 1) := by decide +kernel
theorem d_Al_clear_21 : decode b_Al_clear 21 = .ok (.iconst 0, 1) := by decide +kernel
theorem d_Al_clear_22 : decode b_Al_clear 22 = .ok (.dup_x1, 1) := by decide +kernel
theorem d_Al_clear_23 : decode b_Al_clear 23 = .ok (.putfield 48, 3) := by decide +kernel
theorem d_Al_clear_26 : decode b_Al_clear 26 = .ok (.istore_n 3, 1) := by decide +kernel
theorem d_Al_clear_27 : decode b_Al_clear 27 = .ok (.iload_n 3, 1) := by decide +kernel
theorem d_Al_clear_28 : decode b_Al_clear 28 = .ok (.iload_n 2, 1) := by decide +kernel
theorem d_Al_clear_29 : decode b_Al_clear 29 = .ok (.if_icmp .ge 13, 3) := by decide +kernel
theorem d_Al_clear_32 : decode b_Al_clear 32 = .ok (.aload_n 1, 1) := by decide +kernel
theorem d_Al_clear_33 : decode b_Al_clear 33 = .ok (.iload_n 3, 1) := by decide +kernel
theorem d_Al_clear_34 : decode b_Al_clear 34 = .ok (.aconst_null, 1) := by decide +kernel
theorem d_Al_clear_35 : decode b_Al_clear 35 = .ok (.aastore, 1) := by decide +kernel
theorem d_Al_clear_36 : decode b_Al_clear 36 = .ok (.iinc 3 1, 3) := by decide +kernel
theorem d_Al_clear_39 : decode b_Al_clear 39 = .ok (.goto (-12), 3) := by decide +kernel
theorem d_Al_clear_42 : decode b_Al_clear 42 = .ok (.return_, 1) := by decide +kernel
theorem d_Al_fastRemove_0 : decode b_Al_fastRemove 0 = .ok (.aload_n 0, 1) := by decide +kernel
theorem d_Al_fastRemove_1 : decode b_Al_fastRemove 1 = .ok (.dup, 1) := by decide +kernel
theorem d_Al_fastRemove_2 : decode b_Al_fastRemove 2 = .ok (.getfield 63, 3) := by decide +kernel
theorem d_Al_fastRemove_5 : decode b_Al_fastRemove 5 = .ok (.iconst 1, 1) := by decide +kernel
theorem d_Al_fastRemove_6 : decode b_Al_fastRemove 6 = .ok (.iadd, 1) := by decide +kernel
theorem d_Al_fastRemove_7 : decode b_Al_fastRemove 7 = .ok (.putfield 63, 3) := by decide +kernel
theorem d_Al_fastRemove_10 : decode b_Al_fastRemove 10 = .ok (.aload_n 0, 1) := by decide +kernel
theorem d_Al_fastRemove_11 : decode b_Al_fastRemove 11 = .ok (.getfield 48, 3) := by decide +kernel
theorem d_Al_fastRemove_14 : decode b_Al_fastRemove 14 = .ok (.iconst 1, 1) := by decide +kernel
theorem d_Al_fastRemove_15 : decode b_Al_fastRemove 15 = .ok (.isub, 1) := by decide +kernel
theorem d_Al_fastRemove_16 : decode b_Al_fastRemove 16 = .ok (.dup, 1) := by decide +kernel
theorem d_Al_fastRemove_17 : decode b_Al_fastRemove 17 = .ok (.istore_n 3, 1) := by decide +kernel
theorem d_Al_fastRemove_18 : decode b_Al_fastRemove 18 = .ok (.iload_n 2, 1) := by decide +kernel
theorem d_Al_fastRemove_19 : decode b_Al_fastRemove 19 = .ok (.if_icmp .le 15, 3) := by decide +kernel
theorem d_Al_fastRemove_22 : decode b_Al_fastRemove 22 = .ok (.aload_n 1, 1) := by decide +kernel
theorem d_Al_fastRemove_23 : decode b_Al_fastRemove 23 = .ok (.iload_n 2, 1) := by decide +kernel
theorem d_Al_fastRemove_24 : decode b_Al_fastRemove 24 = .ok (.iconst 1, 1) := by decide +kernel
theorem d_Al_fastRemove_25 : decode b_Al_fastRemove 25 = .ok (.iadd, 1) := by decide +kernel
theorem d_Al_fastRemove_26 : decode b_Al_fastRemove 26 = .ok (.aload_n 1, 1) := by decide +kernel
theorem d_Al_fastRemove_27 : decode b_Al_fastRemove 27 = .ok (.iload_n 2, 1) := by decide +kernel
theorem d_Al_fastRemove_28 : decode b_Al_fastRemove 28 = .ok (.iload_n 3, 1) := by decide +kernel
theorem d_Al_fastRemove_29 : decode b_Al_fastRemove 29 = .ok (.iload_n 2, 1) := by decide +kernel
theorem d_Al_fastRemove_30 : decode b_Al_fastRemove 30 = .ok (.isub, 1) := by decide +kernel
theorem d_Al_fastRemove_31 : decode b_Al_fastRemove 31 = .ok (.invokestatic 112, 3) := by decide +kernel
theorem d_Al_fastRemove_34 : decode b_Al_fastRemove 34 = .ok (.aload_n 1, 1) := by decide +kernel
theorem d_Al_fastRemove_35 : decode b_Al_fastRemove 35 = .ok (.aload_n 0, 1) := by decide +kernel
theorem d_Al_fastRemove_36 : decode b_Al_fastRemove 36 = .ok (.iload_n 3, 1) := by decide +kernel
theorem d_Al_fastRemove_37 : decode b_Al_fastRemove 37 = .ok (.dup_x1, 1) := by decide +kernel
theorem d_Al_fastRemove_38 : decode b_Al_fastRemove 38 = .ok (.putfield 48, 3) := by decide +kernel
theorem d_Al_fastRemove_41 : decode b_Al_fastRemove 41 = .ok (.aconst_null, 1) := by decide +kernel
theorem d_Al_fastRemove_42 : decode b_Al_fastRemove 42 = .ok (.aastore, 1) := by decide +kernel
theorem d_Al_fastRemove_43 : decode b_Al_fastRemove 43 = .ok (.return_, 1) := by decide +kernel
theorem d_Al_remove_0 : decode b_Al_remove 0 = .ok (.iload_n 1, 1) := by decide +kernel
theorem d_Al_remove_1 : decode b_Al_remove 1 = .ok (.aload_n 0, 1) := by decide +kernel
theorem d_Al_remove_2 : decode b_Al_remove 2 = .ok (.getfield 48, 3) := by decide +kernel
theorem d_Al_remove_5 : decode b_Al_remove 5 = .ok (.invokestatic 118, 3) := by decide +kernel
theorem d_Al_remove_8 : decode b_Al_remove 8 = .ok (.pop, 1) := by decide +kernel
theorem d_Al_remove_9 : decode b_Al_remove 9 = .ok (.aload_n 0, 1) := by decide +kernel
theorem d_Al_remove_10 : decode b_Al_remove 10 = .ok (.getfield 9, 3) := by decide +kernel
theorem d_Al_remove_13 : decode b_Al_remove 13 = .ok (.astore_n 2, 1) := by decide +kernel
theorem d_Al_remove_14 : decode b_Al_remove 14 = .ok (.aload_n 2, 1) := by decide +kernel
theorem d_Al_remove_15 : decode b_Al_remove 15 = .ok (.iload_n 1, 1) := by decide +kernel
theorem d_Al_remove_16 : decode b_Al_remove 16 = .ok (.aaload, 1) := by decide +kernel
theorem d_Al_remove_17 : decode b_Al_remove 17 = .ok (.astore_n 3, 1) := by decide +kernel
theorem d_Al_remove_18 : decode b_Al_remove 18 = .ok (.aload_n 0, 1) := by decide +kernel
theorem d_Al_remove_19 : decode b_Al_remove 19 = .ok (.aload_n 2, 1) := by decide +kernel
theorem d_Al_remove_20 : decode b_Al_remove 20 = .ok (.iload_n 1, 1) := by decide +kernel
theorem d_Al_remove_21 : decode b_Al_remove 21 = .ok (.invokevirtual 144, 3) := by decide +kernel
theorem d_Al_remove_24 : decode b_Al_remove 24 = .ok (.aload_n 3, 1) := by decide +kernel
theorem d_Al_remove_25 : decode b_Al_remove 25 = .ok (.areturn, 1) := by decide +kernel
theorem d_Pk_init2_0 : decode b_Pk_init2 0 = .ok (.aload_n 0, 1) := by decide +kernel
theorem d_Pk_init2_1 : decode b_Pk_init2 1 = .ok (.invokespecial 5, 3) := by decide +kernel
theorem d_Pk_init2_4 : decode b_Pk_init2 4 = .ok (.aload_n 0, 1) := by decide +kernel
theorem d_Pk_init2_5 : decode b_Pk_init2 5 = .ok (.aload_n 1, 1) := by decide +kernel
theorem d_Pk_init2_6 : decode b_Pk_init2 6 = .ok (.getfield 11, 3) := by decide +kernel
theorem d_Pk_init2_9 : decode b_Pk_init2 9 = .ok (.invokevirtual 15, 3) := by decide +kernel
theorem d_Pk_init2_12 : decode b_Pk_init2 12 = .ok (.checkcast 16, 3) := by decide +kernel
theorem d_Pk_init2_15 : decode b_Pk_init2 15 = .ok (.putfield 11, 3) := by decide +kernel
theorem d_Pk_init2_18 : decode b_Pk_init2 18 = .ok (.return_, 1) := by decide +kernel
