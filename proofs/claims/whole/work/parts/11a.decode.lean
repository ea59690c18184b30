theorem d_Ck_init_0 : decode b_Ck_init 0 = .ok (.aload_n 0, 1) := by decide +kernel
theorem d_Ck_init_1 : decode b_Ck_init 1 = .ok (.invokespecial 1, 3) := by decide +kernel
theorem d_Ck_init_4 : decode b_Ck_init 4 = .ok (.aload_n 0, 1) := by decide +kernel
theorem d_Ck_init_5 : decode b_Ck_init 5 = .ok (.iload_n 1, 1) := by decide +kernel
theorem d_Ck_init_6 : decode b_Ck_init 6 = .ok (.putfield 7, 3) := by decide +kernel
theorem d_Ck_init_9 : decode b_Ck_init 9 = .ok (.aload_n 0, 1) := by decide +kernel
theorem d_Ck_init_10 : decode b_Ck_init 10 = .ok (.iload_n 2, 1) := by decide +kernel
theorem d_Ck_init_11 : decode b_Ck_init 11 = .ok (.putfield 13, 3) := by decide +kernel
theorem d_Ck_init_14 : decode b_Ck_init 14 = .ok (.aload_n 0, 1) := by decide +kernel
theorem d_Ck_init_15 : decode b_Ck_init 15 = .ok (.iload_n 3, 1) := by decide +kernel
theorem d_Ck_init_16 : decode b_Ck_init 16 = .ok (.putfield 16, 3) := by decide +kernel
theorem d_Ck_init_19 : decode b_Ck_init 19 = .ok (.return_, 1) := by decide +kernel
theorem d_Sl_init_0 : decode b_Sl_init 0 = .ok (.aload_n 0, 1) := by decide +kernel
theorem d_Sl_init_1 : decode b_Sl_init 1 = .ok (.invokespecial 3, 3) := by decide +kernel
theorem d_Sl_init_4 : decode b_Sl_init 4 = .ok (.aload_n 0, 1) := by decide +kernel
theorem d_Sl_init_5 : decode b_Sl_init 5 = .ok (.bipush 8, 2) := by decide +kernel
theorem d_Sl_init_7 : decode b_Sl_init 7 = .ok (.newarray .int, 2) := by decide +kernel
theorem d_Sl_init_9 : decode b_Sl_init 9 = .ok (.putfield 9, 3) := by decide +kernel
theorem d_Sl_init_12 : decode b_Sl_init 12 = .ok (.aload_n 0, 1) := by decide +kernel
theorem d_Sl_init_13 : decode b_Sl_init 13 = .ok (.bipush 8, 2) := by decide +kernel
theorem d_Sl_init_15 : decode b_Sl_init 15 = .ok (.newarray .int, 2) := by decide +kernel
theorem d_Sl_init_17 : decode b_Sl_init 17 = .ok (.putfield 13, 3) := by decide +kernel
theorem d_Sl_init_20 : decode b_Sl_init 20 = .ok (.aload_n 0, 1) := by decide +kernel
theorem d_Sl_init_21 : decode b_Sl_init 21 = .ok (.bipush 32, 2) := by decide +kernel
theorem d_Sl_init_23 : decode b_Sl_init 23 = .ok (.newarray .int, 2) := by decide +kernel
theorem d_Sl_init_25 : decode b_Sl_init 25 = .ok (.putfield 16, 3) := by decide +kernel
theorem d_Sl_init_28 : decode b_Sl_init 28 = .ok (.aload_n 0, 1) := by decide +kernel
theorem d_Sl_init_29 : decode b_Sl_init 29 = .ok (.bipush 64, 2) := by decide +kernel
theorem d_Sl_init_31 : decode b_Sl_init 31 = .ok (.newarray .int, 2) := by decide +kernel
theorem d_Sl_init_33 : decode b_Sl_init 33 = .ok (.putfield 19, 3) := by decide +kernel
theorem d_Sl_init_36 : decode b_Sl_init 36 = .ok (.return_, 1) := by decide +kernel
theorem d_Kc_init_0 : decode b_Kc_init 0 = .ok (.aload_n 0, 1) := by decide +kernel
theorem d_Kc_init_1 : decode b_Kc_init 1 = .ok (.invokespecial 3, 3) := by decide +kernel
theorem d_Kc_init_4 : decode b_Kc_init 4 = .ok (.aload_n 0, 1) := by decide +kernel
theorem d_Kc_init_5 : decode b_Kc_init 5 = .ok (.sipush 325, 3) := by decide +kernel
theorem d_Kc_init_8 : decode b_Kc_init 8 = .ok (.newarray .int, 2) := by decide +kernel
theorem d_Kc_init_10 : decode b_Kc_init 10 = .ok (.putfield 9, 3) := by decide +kernel
theorem d_Kc_init_13 : decode b_Kc_init 13 = .ok (.aload_n 0, 1) := by decide +kernel
theorem d_Kc_init_14 : decode b_Kc_init 14 = .ok (.iconst (-1), 1) := by decide +kernel
theorem d_Kc_init_15 : decode b_Kc_init 15 = .ok (.putfield 15, 3) := by decide +kernel
theorem d_Kc_init_18 : decode b_Kc_init 18 = .ok (.aload_n 0, 1) := by decide +kernel
theorem d_Kc_init_19 : decode b_Kc_init 19 = .ok (.iconst (-1), 1) := by decide +kernel
theorem d_Kc_init_20 : decode b_Kc_init 20 = .ok (.putfield 19, 3) := by decide +kernel
theorem d_Kc_init_23 : decode b_Kc_init 23 = .ok (.return_, 1) := by decide +kernel
theorem d_Pk_init1_0 : decode b_Pk_init1 0 = .ok (.aload_n 0, 1) := by decide +kernel
theorem d_Pk_init1_1 : decode b_Pk_init1 1 = .ok (.invokespecial 5, 3) := by decide +kernel
theorem d_Pk_init1_4 : decode b_Pk_init1 4 = .ok (.aload_n 0, 1) := by decide +kernel
theorem d_Pk_init1_5 : decode b_Pk_init1 5 = .ok (.bipush 36, 2) := by decide +kernel
theorem d_Pk_init1_7 : decode b_Pk_init1 7 = .ok (.iload_n 3, 1) := by decide +kernel
theorem d_Pk_init1_8 : decode b_Pk_init1 8 = .ok (.iadd, 1) := by decide +kernel
theorem d_Pk_init1_9 : decode b_Pk_init1 9 = .ok (.newarray .int, 2) := by decide +kernel
theorem d_Pk_init1_11 : decode b_Pk_init1 11 = .ok (.putfield 11, 3) := by decide +kernel
theorem d_Pk_init1_14 : decode b_Pk_init1 14 = .ok (.aload_n 0, 1) := by decide +kernel
theorem d_Pk_init1_15 : decode b_Pk_init1 15 = .ok (.getfield 11, 3) := by decide +kernel
theorem d_Pk_init1_18 : decode b_Pk_init1 18 = .ok (.iconst 0, 1) := by decide +kernel
theorem d_Pk_init1_19 : decode b_Pk_init1 19 = .ok (.iload_n 1, 1) := by decide +kernel
theorem d_Pk_init1_20 : decode b_Pk_init1 20 = .ok (.bipush 24, 2) := by decide +kernel
theorem d_Pk_init1_22 : decode b_Pk_init1 22 = .ok (.iushr, 1) := by decide +kernel
theorem d_Pk_init1_23 : decode b_Pk_init1 23 = .ok (.iastore, 1) := by decide +kernel
theorem d_Pk_init1_24 : decode b_Pk_init1 24 = .ok (.aload_n 0, 1) := by decide +kernel
theorem d_Pk_init1_25 : decode b_Pk_init1 25 = .ok (.getfield 11, 3) := by decide +kernel
theorem d_Pk_init1_28 : decode b_Pk_init1 28 = .ok (.iconst 1, 1) := by decide +kernel
theorem d_Pk_init1_29 : decode b_Pk_init1 29 = .ok (.iload_n 1, 1) := by decide +kernel
theorem d_Pk_init1_30 : decode b_Pk_init1 30 = .ok (.bipush 16, 2) := by decide +kernel
theorem d_Pk_init1_32 : decode b_Pk_init1 32 = .ok (.iushr, 1) := by decide +kernel
theorem d_Pk_init1_33 : decode b_Pk_init1 33 = .ok (.sipush 255, 3) := by decide +kernel
theorem d_Pk_init1_36 : decode b_Pk_init1 36 = .ok (.iand, 1) := by decide +kernel
theorem d_Pk_init1_37 : decode b_Pk_init1 37 = .ok (.iastore, 1) := by decide +kernel
theorem d_Pk_init1_38 : decode b_Pk_init1 38 = .ok (.aload_n 0, 1) := by decide +kernel
theorem d_Pk_init1_39 : decode b_Pk_init1 39 = .ok (.getfield 11, 3) := by decide +kernel
theorem d_Pk_init1_42 : decode b_Pk_init1 42 = .ok (.iconst 2, 1) := by decide +kernel
theorem d_Pk_init1_43 : decode b_Pk_init1 43 = .ok (.iload_n 1, 1) := by decide +kernel
theorem d_Pk_init1_44 : decode b_Pk_init1 44 = .ok (.bipush 8, 2) := by decide +kernel
theorem d_Pk_init1_46 : decode b_Pk_init1 46 = .ok (.iushr, 1) := by decide +kernel
theorem d_Pk_init1_47 : decode b_Pk_init1 47 = .ok (.sipush 255, 3) := by decide +kernel
theorem d_Pk_init1_50 : decode b_Pk_init1 50 = .ok (.iand, 1) := by decide +kernel
theorem d_Pk_init1_51 : decode b_Pk_init1 51 = .ok (.iastore, 1) := by decide +kernel
theorem d_Pk_init1_52 : decode b_Pk_init1 52 = .ok (.aload_n 0, 1) := by decide +kernel
theorem d_Pk_init1_53 : decode b_Pk_init1 53 = .ok (.getfield 11, 3) := by decide +kernel
theorem d_Pk_init1_56 : decode b_Pk_init1 56 = .ok (.iconst 3, 1) := by decide +kernel
theorem d_Pk_init1_57 : decode b_Pk_init1 57 = .ok (.iload_n 1, 1) := by decide +kernel
theorem d_Pk_init1_58 : decode b_Pk_init1 58 = .ok (.sipush 255, 3) := by decide +kernel
theorem d_Pk_init1_61 : decode b_Pk_init1 61 = .ok (.iand, 1) := by decide +kernel
theorem d_Pk_init1_62 : decode b_Pk_init1 62 = .ok (.iastore, 1) := by decide +kernel
theorem d_Pk_init1_63 : decode b_Pk_init1 63 = .ok (.aload_n 0, 1) := by decide +kernel
theorem d_Pk_init1_64 : decode b_Pk_init1 64 = .ok (.getfield 11, 3) := by decide +kernel
theorem d_Pk_init1_67 : decode b_Pk_init1 67 = .ok (.iconst 4, 1) := by decide +kernel
theorem d_Pk_init1_68 : decode b_Pk_init1 68 = .ok (.iload_n 2, 1) := by decide +kernel
theorem d_Pk_init1_69 : decode b_Pk_init1 69 = .ok (.iastore, 1) := by decide +kernel
theorem d_Pk_init1_70 : decode b_Pk_init1 70 = .ok (.aload_n 0, 1) := by decide +kernel
theorem d_Pk_init1_71 : decode b_Pk_init1 71 = .ok (.getfield 11, 3) := by decide +kernel
theorem d_Pk_init1_74 : decode b_Pk_init1 74 = .ok (.iconst 5, 1) := by decide +kernel
theorem d_Pk_init1_75 : decode b_Pk_init1 75 = .ok (.iload_n 3, 1) := by decide +kernel
theorem d_Pk_init1_76 : decode b_Pk_init1 76 = .ok (.iastore, 1) := by decide +kernel
theorem d_Pk_init1_77 : decode b_Pk_init1 77 = .ok (.return_, 1) := by decide +kernel
theorem d_Pk_interval_0 : decode b_Pk_interval 0 = .ok (.aload_n 0, 1) := by decide +kernel
theorem d_Pk_interval_1 : decode b_Pk_interval 1 = .ok (.getfield 11, 3) := by decide +kernel
theorem d_Pk_interval_4 : decode b_Pk_interval 4 = .ok (.iconst 0, 1) := by decide +kernel
theorem d_Pk_interval_5 : decode b_Pk_interval 5 = .ok (.invokestatic 20, 3) := by decide +kernel
theorem d_Pk_interval_8 : decode b_Pk_interval 8 = .ok (.ireturn, 1) := by decide +kernel
theorem d_Pk_size_0 : decode b_Pk_size 0 = .ok (.aload_n 0, 1) := by decide +kernel
theorem d_Pk_size_1 : decode b_Pk_size 1 = .ok (.getfield 11, 3) := by decide +kernel
theorem d_Pk_size_4 : decode b_Pk_size 4 = .ok (.iconst 5, 1) := by decide +kernel
theorem d_Pk_size_5 : decode b_Pk_size 5 = .ok (.iaload, 1) := by decide +kernel
theorem d_Pk_size_6 : decode b_Pk_size 6 = .ok (.ireturn, 1) := by decide +kernel
theorem d_Pk_kind_0 : decode b_Pk_kind 0 = .ok (.aload_n 0, 1) := by decide +kernel
theorem d_Pk_kind_1 : decode b_Pk_kind 1 = .ok (.getfield 11, 3) := by decide +kernel
theorem d_Pk_kind_4 : decode b_Pk_kind 4 = .ok (.iconst 4, 1) := by decide +kernel
theorem d_Pk_kind_5 : decode b_Pk_kind 5 = .ok (.iaload, 1) := by decide +kernel
theorem d_Pk_kind_6 : decode b_Pk_kind 6 = .ok (.ireturn, 1) := by decide +kernel
theorem d_Pk_codeAt_0 : decode b_Pk_codeAt 0 = .ok (.bipush 6, 2) := by decide +kernel
theorem d_Pk_codeAt_2 : decode b_Pk_codeAt 2 = .ok (.aload_n 0, 1) := by decide +kernel
theorem d_Pk_codeAt_3 : decode b_Pk_codeAt 3 = .ok (.invokevirtual 24, 3) := by decide +kernel
theorem d_Pk_codeAt_6 : decode b_Pk_codeAt 6 = .ok (.iadd, 1) := by decide +kernel
theorem d_Pk_codeAt_7 : decode b_Pk_codeAt 7 = .ok (.ireturn, 1) := by decide +kernel
theorem d_Pk_shownAt_0 : decode b_Pk_shownAt 0 = .ok (.aload_n 0, 1) := by decide +kernel
theorem d_Pk_shownAt_1 : decode b_Pk_shownAt 1 = .ok (.invokevirtual 28, 3) := by decide +kernel
theorem d_Pk_shownAt_4 : decode b_Pk_shownAt 4 = .ok (.bipush 10, 2) := by decide +kernel
theorem d_Pk_shownAt_6 : decode b_Pk_shownAt 6 = .ok (.iadd, 1) := by decide +kernel
theorem d_Pk_shownAt_7 : decode b_Pk_shownAt 7 = .ok (.ireturn, 1) := by decide +kernel
theorem d_Pk_isBroken_0 : decode b_Pk_isBroken 0 = .ok (.aload_n 0, 1) := by decide +kernel
theorem d_Pk_isBroken_1 : decode b_Pk_isBroken 1 = .ok (.invokevirtual 24, 3) := by decide +kernel
theorem d_Pk_isBroken_4 : decode b_Pk_isBroken 4 = .ok (.istore_n 1, 1) := by decide +kernel
theorem d_Pk_isBroken_5 : decode b_Pk_isBroken 5 = .ok (.aload_n 0, 1) := by decide +kernel
theorem d_Pk_isBroken_6 : decode b_Pk_isBroken 6 = .ok (.invokevirtual 31, 3) := by decide +kernel
theorem d_Pk_isBroken_9 : decode b_Pk_isBroken 9 = .ok (.istore_n 2, 1) := by decide +kernel
theorem d_Pk_isBroken_10 : decode b_Pk_isBroken 10 = .ok (.aload_n 0, 1) := by decide +kernel
theorem d_Pk_isBroken_11 : decode b_Pk_isBroken 11 = .ok (.getfield 11, 3) := by decide +kernel
theorem d_Pk_isBroken_14 : decode b_Pk_isBroken 14 = .ok (.arraylength, 1) := by decide +kernel
theorem d_Pk_isBroken_15 : decode b_Pk_isBroken 15 = .ok (.bipush 36, 2) := by decide +kernel
theorem d_Pk_isBroken_17 : decode b_Pk_isBroken 17 = .ok (.iload_n 1, 1) := by decide +kernel
theorem d_Pk_isBroken_18 : decode b_Pk_isBroken 18 = .ok (.iadd, 1) := by decide +kernel
theorem d_Pk_isBroken_19 : decode b_Pk_isBroken 19 = .ok (.if_icmp .ne 50, 3) := by decide +kernel
theorem d_Pk_isBroken_22 : decode b_Pk_isBroken 22 = .ok (.iload_n 1, 1) := by decide +kernel
theorem d_Pk_isBroken_23 : decode b_Pk_isBroken 23 = .ok (.bipush 32, 2) := by decide +kernel
theorem d_Pk_isBroken_25 : decode b_Pk_isBroken 25 = .ok (.if_icmp .gt 44, 3) := by decide +kernel
theorem d_Pk_isBroken_28 : decode b_Pk_isBroken 28 = .ok (.aload_n 0, 1) := by decide +kernel
theorem d_Pk_isBroken_29 : decode b_Pk_isBroken 29 = .ok (.invokevirtual 34, 3) := by decide +kernel
theorem d_Pk_isBroken_32 : decode b_Pk_isBroken 32 = .ok (.ifCond .eq 11, 3) := by decide +kernel
theorem d_Pk_isBroken_35 : decode b_Pk_isBroken 35 = .ok (.aload_n 0, 1) := by decide +kernel
theorem d_Pk_isBroken_36 : decode b_Pk_isBroken 36 = .ok (.invokevirtual 34, 3) := by decide +kernel
theorem d_Pk_isBroken_39 : decode b_Pk_isBroken 39 = .ok (.iconst 1, 1) := by decide +kernel
theorem d_Pk_isBroken_40 : decode b_Pk_isBroken 40 = .ok (.if_icmp .ne 29, 3) := by decide +kernel
theorem d_Pk_isBroken_43 : decode b_Pk_isBroken 43 = .ok (.aload_n 0, 1) := by decide +kernel
theorem d_Pk_isBroken_44 : decode b_Pk_isBroken 44 = .ok (.invokevirtual 34, 3) := by decide +kernel
theorem d_Pk_isBroken_47 : decode b_Pk_isBroken 47 = .ok (.iconst 1, 1) := by decide +kernel
theorem d_Pk_isBroken_48 : decode b_Pk_isBroken 48 = .ok (.if_icmp .ne 9, 3) := by decide +kernel
theorem d_Pk_isBroken_51 : decode b_Pk_isBroken 51 = .ok (.iload_n 1, 1) := by decide +kernel
theorem d_Pk_isBroken_52 : decode b_Pk_isBroken 52 = .ok (.bipush 20, 2) := by decide +kernel
theorem d_Pk_isBroken_54 : decode b_Pk_isBroken 54 = .ok (.if_icmp .ne 15, 3) := by decide +kernel
theorem d_Pk_isBroken_57 : decode b_Pk_isBroken 57 = .ok (.iload_n 2, 1) := by decide +kernel
theorem d_Pk_isBroken_58 : decode b_Pk_isBroken 58 = .ok (.iconst 1, 1) := by decide +kernel
theorem d_Pk_isBroken_59 : decode b_Pk_isBroken 59 = .ok (.if_icmp .lt 10, 3) := by decide +kernel
theorem d_Pk_isBroken_62 : decode b_Pk_isBroken 62 = .ok (.iload_n 2, 1) := by decide +kernel
theorem d_Pk_isBroken_63 : decode b_Pk_isBroken 63 = .ok (.sipush 512, 3) := by decide +kernel
theorem d_Pk_isBroken_66 : decode b_Pk_isBroken 66 = .ok (.if_icmp .le 7, 3) := by decide +kernel
theorem d_Pk_isBroken_69 : decode b_Pk_isBroken 69 = .ok (.iconst 1, 1) := by decide +kernel
theorem d_Pk_isBroken_70 : decode b_Pk_isBroken 70 = .ok (.goto 4, 3) := by decide +kernel
theorem d_Pk_isBroken_73 : decode b_Pk_isBroken 73 = .ok (.iconst 0, 1) := by decide +kernel
theorem d_Pk_isBroken_74 : decode b_Pk_isBroken 74 = .ok (.ireturn, 1) := by decide +kernel
theorem d_Pk_writeCode_0 : decode b_Pk_writeCode 0 = .ok (.iconst 0, 1) := by decide +kernel
theorem d_Pk_writeCode_1 : decode b_Pk_writeCode 1 = .ok (.istore_n 2, 1) := by decide +kernel
theorem d_Pk_writeCode_2 : decode b_Pk_writeCode 2 = .ok (.iload_n 2, 1) := by decide +kernel
theorem d_Pk_writeCode_3 : decode b_Pk_writeCode 3 = .ok (.bipush 10, 2) := by decide +kernel
theorem d_Pk_writeCode_5 : decode b_Pk_writeCode 5 = .ok (.if_icmp .ge 25, 3) := by decide +kernel
theorem d_Pk_writeCode_8 : decode b_Pk_writeCode 8 = .ok (.aload_n 0, 1) := by decide +kernel
theorem d_Pk_writeCode_9 : decode b_Pk_writeCode 9 = .ok (.getfield 11, 3) := by decide +kernel
theorem d_Pk_writeCode_12 : decode b_Pk_writeCode 12 = .ok (.aload_n 0, 1) := by decide +kernel
theorem d_Pk_writeCode_13 : decode b_Pk_writeCode 13 = .ok (.invokevirtual 28, 3) := by decide +kernel
theorem d_Pk_writeCode_16 : decode b_Pk_writeCode 16 = .ok (.iload_n 2, 1) := by decide +kernel
theorem d_Pk_writeCode_17 : decode b_Pk_writeCode 17 = .ok (.iadd, 1) := by decide +kernel
theorem d_Pk_writeCode_18 : decode b_Pk_writeCode 18 = .ok (.aload_n 1, 1) := by decide +kernel
theorem d_Pk_writeCode_19 : decode b_Pk_writeCode 19 = .ok (.iload_n 2, 1) := by decide +kernel
theorem d_Pk_writeCode_20 : decode b_Pk_writeCode 20 = .ok (.invokestatic 37, 3) := by decide +kernel
theorem d_Pk_writeCode_23 : decode b_Pk_writeCode 23 = .ok (.iastore, 1) := by decide +kernel
theorem d_Pk_writeCode_24 : decode b_Pk_writeCode 24 = .ok (.iinc 2 1, 3) := by decide +kernel
theorem d_Pk_writeCode_27 : decode b_Pk_writeCode 27 = .ok (.goto (-25), 3) := by decide +kernel
theorem d_Pk_writeCode_30 : decode b_Pk_writeCode 30 = .ok (.return_, 1) := by decide +kernel
theorem d_Pk_hasCode_0 : decode b_Pk_hasCode 0 = .ok (.iconst 0, 1) := by decide +kernel
theorem d_Pk_hasCode_1 : decode b_Pk_hasCode 1 = .ok (.istore_n 2, 1) := by decide +kernel
theorem d_Pk_hasCode_2 : decode b_Pk_hasCode 2 = .ok (.iload_n 2, 1) := by decide +kernel
theorem d_Pk_hasCode_3 : decode b_Pk_hasCode 3 = .ok (.bipush 10, 2) := by decide +kernel
theorem d_Pk_hasCode_5 : decode b_Pk_hasCode 5 = .ok (.if_icmp .ge 30, 3) := by decide +kernel
theorem d_Pk_hasCode_8 : decode b_Pk_hasCode 8 = .ok (.aload_n 0, 1) := by decide +kernel
theorem d_Pk_hasCode_9 : decode b_Pk_hasCode 9 = .ok (.getfield 11, 3) := by decide +kernel
theorem d_Pk_hasCode_12 : decode b_Pk_hasCode 12 = .ok (.aload_n 0, 1) := by decide +kernel
theorem d_Pk_hasCode_13 : decode b_Pk_hasCode 13 = .ok (.invokevirtual 28, 3) := by decide +kernel
theorem d_Pk_hasCode_16 : decode b_Pk_hasCode 16 = .ok (.iload_n 2, 1) := by decide +kernel
theorem d_Pk_hasCode_17 : decode b_Pk_hasCode 17 = .ok (.iadd, 1) := by decide +kernel
theorem d_Pk_hasCode_18 : decode b_Pk_hasCode 18 = .ok (.iaload, 1) := by decide +kernel
theorem d_Pk_hasCode_19 : decode b_Pk_hasCode 19 = .ok (.aload_n 1, 1) := by decide +kernel
theorem d_Pk_hasCode_20 : decode b_Pk_hasCode 20 = .ok (.iload_n 2, 1) := by decide +kernel
theorem d_Pk_hasCode_21 : decode b_Pk_hasCode 21 = .ok (.invokestatic 37, 3) := by decide +kernel
theorem d_Pk_hasCode_24 : decode b_Pk_hasCode 24 = .ok (.if_icmp .eq 5, 3) := by decide +kernel
theorem d_Pk_hasCode_27 : decode b_Pk_hasCode 27 = .ok (.iconst 0, 1) := by decide +kernel
theorem d_Pk_hasCode_28 : decode b_Pk_hasCode 28 = .ok (.ireturn, 1) := by decide +kernel
theorem d_Pk_hasCode_29 : decode b_Pk_hasCode 29 = .ok (.iinc 2 1, 3) := by decide +kernel
theorem d_Pk_hasCode_32 : decode b_Pk_hasCode 32 = .ok (.goto (-30), 3) := by decide +kernel
theorem d_Pk_hasCode_35 : decode b_Pk_hasCode 35 = .ok (.iconst 1, 1) := by decide +kernel
theorem d_Pk_hasCode_36 : decode b_Pk_hasCode 36 = .ok (.ireturn, 1) := by decide +kernel
theorem d_Pk_isTwinOf_0 : decode b_Pk_isTwinOf 0 = .ok (.aload_n 0, 1) := by decide +kernel
theorem d_Pk_isTwinOf_1 : decode b_Pk_isTwinOf 1 = .ok (.invokevirtual 31, 3) := by decide +kernel
theorem d_Pk_isTwinOf_4 : decode b_Pk_isTwinOf 4 = .ok (.aload_n 1, 1) := by decide +kernel
theorem d_Pk_isTwinOf_5 : decode b_Pk_isTwinOf 5 = .ok (.invokevirtual 31, 3) := by decide +kernel
theorem d_Pk_isTwinOf_8 : decode b_Pk_isTwinOf 8 = .ok (.if_icmp .eq 5, 3) := by decide +kernel
theorem d_Pk_isTwinOf_11 : decode b_Pk_isTwinOf 11 = .ok (.iconst 0, 1) := by decide +kernel
theorem d_Pk_isTwinOf_12 : decode b_Pk_isTwinOf 12 = .ok (.ireturn, 1) := by decide +kernel
theorem d_Pk_isTwinOf_13 : decode b_Pk_isTwinOf 13 = .ok (.iconst 0, 1) := by decide +kernel
theorem d_Pk_isTwinOf_14 : decode b_Pk_isTwinOf 14 = .ok (.istore_n 2, 1) := by decide +kernel
theorem d_Pk_isTwinOf_15 : decode b_Pk_isTwinOf 15 = .ok (.iload_n 2, 1) := by decide +kernel
theorem d_Pk_isTwinOf_16 : decode b_Pk_isTwinOf 16 = .ok (.bipush 10, 2) := by decide +kernel
theorem d_Pk_isTwinOf_18 : decode b_Pk_isTwinOf 18 = .ok (.if_icmp .ge 36, 3) := by decide +kernel
theorem d_Pk_isTwinOf_21 : decode b_Pk_isTwinOf 21 = .ok (.aload_n 0, 1) := by decide +kernel
theorem d_Pk_isTwinOf_22 : decode b_Pk_isTwinOf 22 = .ok (.getfield 11, 3) := by decide +kernel
theorem d_Pk_isTwinOf_25 : decode b_Pk_isTwinOf 25 = .ok (.aload_n 0, 1) := by decide +kernel
theorem d_Pk_isTwinOf_26 : decode b_Pk_isTwinOf 26 = .ok (.invokevirtual 28, 3) := by decide +kernel
theorem d_Pk_isTwinOf_29 : decode b_Pk_isTwinOf 29 = .ok (.iload_n 2, 1) := by decide +kernel
theorem d_Pk_isTwinOf_30 : decode b_Pk_isTwinOf 30 = .ok (.iadd, 1) := by decide +kernel
theorem d_Pk_isTwinOf_31 : decode b_Pk_isTwinOf 31 = .ok (.iaload, 1) := by decide +kernel
theorem d_Pk_isTwinOf_32 : decode b_Pk_isTwinOf 32 = .ok (.aload_n 1, 1) := by decide +kernel
theorem d_Pk_isTwinOf_33 : decode b_Pk_isTwinOf 33 = .ok (.getfield 11, 3) := by decide +kernel
theorem d_Pk_isTwinOf_36 : decode b_Pk_isTwinOf 36 = .ok (.aload_n 1, 1) := by decide +kernel
theorem d_Pk_isTwinOf_37 : decode b_Pk_isTwinOf 37 = .ok (.invokevirtual 28, 3) := by decide +kernel
theorem d_Pk_isTwinOf_40 : decode b_Pk_isTwinOf 40 = .ok (.iload_n 2, 1) := by decide +kernel
theorem d_Pk_isTwinOf_41 : decode b_Pk_isTwinOf 41 = .ok (.iadd, 1) := by decide +kernel
theorem d_Pk_isTwinOf_42 : decode b_Pk_isTwinOf 42 = .ok (.iaload, 1) := by decide +kernel
theorem d_Pk_isTwinOf_43 : decode b_Pk_isTwinOf 43 = .ok (.if_icmp .eq 5, 3) := by decide +kernel
theorem d_Pk_isTwinOf_46 : decode b_Pk_isTwinOf 46 = .ok (.iconst 0, 1) := by decide +kernel
theorem d_Pk_isTwinOf_47 : decode b_Pk_isTwinOf 47 = .ok (.ireturn, 1) := by decide +kernel
theorem d_Pk_isTwinOf_48 : decode b_Pk_isTwinOf 48 = .ok (.iinc 2 1, 3) := by decide +kernel
theorem d_Pk_isTwinOf_51 : decode b_Pk_isTwinOf 51 = .ok (.goto (-36), 3) := by decide +kernel
theorem d_Pk_isTwinOf_54 : decode b_Pk_isTwinOf 54 = .ok (.iconst 1, 1) := by decide +kernel
theorem d_Pk_isTwinOf_55 : decode b_Pk_isTwinOf 55 = .ok (.ireturn, 1) := by decide +kernel
theorem d_Kc_isKnown_0 : decode b_Kc_isKnown 0 = .ok (.aload_n 0, 1) := by decide +kernel
theorem d_Kc_isKnown_1 : decode b_Kc_isKnown 1 = .ok (.getfield 19, 3) := by decide +kernel
theorem d_Kc_isKnown_4 : decode b_Kc_isKnown 4 = .ok (.iconst (-1), 1) := by decide +kernel
theorem d_Kc_isKnown_5 : decode b_Kc_isKnown 5 = .ok (.if_icmp .eq 7, 3) := by decide +kernel
theorem d_Kc_isKnown_8 : decode b_Kc_isKnown 8 = .ok (.iconst 1, 1) := by decide +kernel
theorem d_Kc_isKnown_9 : decode b_Kc_isKnown 9 = .ok (.goto 4, 3) := by decide +kernel
theorem d_Kc_isKnown_12 : decode b_Kc_isKnown 12 = .ok (.iconst 0, 1) := by decide +kernel
theorem d_Kc_isKnown_13 : decode b_Kc_isKnown 13 = .ok (.ireturn, 1) := by decide +kernel
theorem d_Kc_forget_0 : decode b_Kc_forget 0 = .ok (.aload_n 0, 1) := by decide +kernel
theorem d_Kc_forget_1 : decode b_Kc_forget 1 = .ok (.iconst (-1), 1) := by decide +kernel
theorem d_Kc_forget_2 : decode b_Kc_forget 2 = .ok (.putfield 15, 3) := by decide +kernel
theorem d_Kc_forget_5 : decode b_Kc_forget 5 = .ok (.aload_n 0, 1) := by decide +kernel
theorem d_Kc_forget_6 : decode b_Kc_forget 6 = .ok (.iconst (-1), 1) := by decide +kernel
theorem d_Kc_forget_7 : decode b_Kc_forget 7 = .ok (.putfield 19, 3) := by decide +kernel
theorem d_Kc_forget_10 : decode b_Kc_forget 10 = .ok (.return_, 1) := by decide +kernel
theorem d_Kc_putTopKey_0 : decode b_Kc_putTopKey 0 = .ok (.sipush 320, 3) := by decide +kernel
theorem d_Kc_putTopKey_3 : decode b_Kc_putTopKey 3 = .ok (.istore 6, 2) := by decide +kernel
theorem d_Kc_putTopKey_5 : decode b_Kc_putTopKey 5 = .ok (.aload_n 0, 1) := by decide +kernel
theorem d_Kc_putTopKey_6 : decode b_Kc_putTopKey 6 = .ok (.getfield 9, 3) := by decide +kernel
theorem d_Kc_putTopKey_9 : decode b_Kc_putTopKey 9 = .ok (.iload 6, 2) := by decide +kernel
theorem d_Kc_putTopKey_11 : decode b_Kc_putTopKey 11 = .ok (.iload_n 1, 1) := by decide +kernel
theorem d_Kc_putTopKey_12 : decode b_Kc_putTopKey 12 = .ok (.iastore, 1) := by decide +kernel
theorem d_Kc_putTopKey_13 : decode b_Kc_putTopKey 13 = .ok (.aload_n 0, 1) := by decide +kernel
theorem d_Kc_putTopKey_14 : decode b_Kc_putTopKey 14 = .ok (.getfield 9, 3) := by decide +kernel
theorem d_Kc_putTopKey_17 : decode b_Kc_putTopKey 17 = .ok (.iload 6, 2) := by decide +kernel
theorem d_Kc_putTopKey_19 : decode b_Kc_putTopKey 19 = .ok (.iconst 1, 1) := by decide +kernel
theorem d_Kc_putTopKey_20 : decode b_Kc_putTopKey 20 = .ok (.iadd, 1) := by decide +kernel
theorem d_Kc_putTopKey_21 : decode b_Kc_putTopKey 21 = .ok (.iload_n 2, 1) := by decide +kernel
theorem d_Kc_putTopKey_22 : decode b_Kc_putTopKey 22 = .ok (.iastore, 1) := by decide +kernel
theorem d_Kc_putTopKey_23 : decode b_Kc_putTopKey 23 = .ok (.aload_n 0, 1) := by decide +kernel
theorem d_Kc_putTopKey_24 : decode b_Kc_putTopKey 24 = .ok (.getfield 9, 3) := by decide +kernel
theorem d_Kc_putTopKey_27 : decode b_Kc_putTopKey 27 = .ok (.iload 6, 2) := by decide +kernel
theorem d_Kc_putTopKey_29 : decode b_Kc_putTopKey 29 = .ok (.iconst 2, 1) := by decide +kernel
theorem d_Kc_putTopKey_30 : decode b_Kc_putTopKey 30 = .ok (.iadd, 1) := by decide +kernel
theorem d_Kc_putTopKey_31 : decode b_Kc_putTopKey 31 = .ok (.iload_n 3, 1) := by decide +kernel
theorem d_Kc_putTopKey_32 : decode b_Kc_putTopKey 32 = .ok (.iastore, 1) := by decide +kernel
theorem d_Kc_putTopKey_33 : decode b_Kc_putTopKey 33 = .ok (.aload_n 0, 1) := by decide +kernel
theorem d_Kc_putTopKey_34 : decode b_Kc_putTopKey 34 = .ok (.getfield 9, 3) := by decide +kernel
theorem d_Kc_putTopKey_37 : decode b_Kc_putTopKey 37 = .ok (.iload 6, 2) := by decide +kernel
theorem d_Kc_putTopKey_39 : decode b_Kc_putTopKey 39 = .ok (.iconst 3, 1) := by decide +kernel
theorem d_Kc_putTopKey_40 : decode b_Kc_putTopKey 40 = .ok (.iadd, 1) := by decide +kernel
theorem d_Kc_putTopKey_41 : decode b_Kc_putTopKey 41 = .ok (.iload 4, 2) := by decide +kernel
theorem d_Kc_putTopKey_43 : decode b_Kc_putTopKey 43 = .ok (.iastore, 1) := by decide +kernel
theorem d_Kc_putTopKey_44 : decode b_Kc_putTopKey 44 = .ok (.aload_n 0, 1) := by decide +kernel
theorem d_Kc_putTopKey_45 : decode b_Kc_putTopKey 45 = .ok (.getfield 9, 3) := by decide +kernel
theorem d_Kc_putTopKey_48 : decode b_Kc_putTopKey 48 = .ok (.iload 6, 2) := by decide +kernel
theorem d_Kc_putTopKey_50 : decode b_Kc_putTopKey 50 = .ok (.iconst 4, 1) := by decide +kernel
theorem d_Kc_putTopKey_51 : decode b_Kc_putTopKey 51 = .ok (.iadd, 1) := by decide +kernel
theorem d_Kc_putTopKey_52 : decode b_Kc_putTopKey 52 = .ok (.iload 5, 2) := by decide +kernel
theorem d_Kc_putTopKey_54 : decode b_Kc_putTopKey 54 = .ok (.iastore, 1) := by decide +kernel
theorem d_Kc_putTopKey_55 : decode b_Kc_putTopKey 55 = .ok (.return_, 1) := by decide +kernel
theorem d_Kc_fillDown_0 : decode b_Kc_fillDown 0 = .ok (.iload_n 1, 1) := by decide +kernel
theorem d_Kc_fillDown_1 : decode b_Kc_fillDown 1 = .ok (.istore 4, 2) := by decide +kernel
theorem d_Kc_fillDown_3 : decode b_Kc_fillDown 3 = .ok (.iload 4, 2) := by decide +kernel
theorem d_Kc_fillDown_5 : decode b_Kc_fillDown 5 = .ok (.iload_n 2, 1) := by decide +kernel
theorem d_Kc_fillDown_6 : decode b_Kc_fillDown 6 = .ok (.if_icmp .le 48, 3) := by decide +kernel
theorem d_Kc_fillDown_9 : decode b_Kc_fillDown 9 = .ok (.aload_n 3, 1) := by decide +kernel
theorem d_Kc_fillDown_10 : decode b_Kc_fillDown 10 = .ok (.aload_n 0, 1) := by decide +kernel
theorem d_Kc_fillDown_11 : decode b_Kc_fillDown 11 = .ok (.getfield 9, 3) := by decide +kernel
theorem d_Kc_fillDown_14 : decode b_Kc_fillDown 14 = .ok (.iload 4, 2) := by decide +kernel
theorem d_Kc_fillDown_16 : decode b_Kc_fillDown 16 = .ok (.iconst 5, 1) := by decide +kernel
theorem d_Kc_fillDown_17 : decode b_Kc_fillDown 17 = .ok (.imul, 1) := by decide +kernel
theorem d_Kc_fillDown_18 : decode b_Kc_fillDown 18 = .ok (.iconst 5, 1) := by decide +kernel
theorem d_Kc_fillDown_19 : decode b_Kc_fillDown 19 = .ok (.getstatic 22, 3) := by decide +kernel
theorem d_Kc_fillDown_22 : decode b_Kc_fillDown 22 = .ok (.getstatic 22, 3) := by decide +kernel
theorem d_Kc_fillDown_25 : decode b_Kc_fillDown 25 = .ok (.arraylength, 1) := by decide +kernel
theorem d_Kc_fillDown_26 : decode b_Kc_fillDown 26 = .ok (.invokevirtual 25, 3) := by decide +kernel
theorem d_Kc_fillDown_29 : decode b_Kc_fillDown 29 = .ok (.aload_n 3, 1) := by decide +kernel
theorem d_Kc_fillDown_30 : decode b_Kc_fillDown 30 = .ok (.getfield 31, 3) := by decide +kernel
theorem d_Kc_fillDown_33 : decode b_Kc_fillDown 33 = .ok (.iconst 0, 1) := by decide +kernel
theorem d_Kc_fillDown_34 : decode b_Kc_fillDown 34 = .ok (.aload_n 0, 1) := by decide +kernel
theorem d_Kc_fillDown_35 : decode b_Kc_fillDown 35 = .ok (.getfield 9, 3) := by decide +kernel
theorem d_Kc_fillDown_38 : decode b_Kc_fillDown 38 = .ok (.iload 4, 2) := by decide +kernel
theorem d_Kc_fillDown_40 : decode b_Kc_fillDown 40 = .ok (.iconst 1, 1) := by decide +kernel
theorem d_Kc_fillDown_41 : decode b_Kc_fillDown 41 = .ok (.isub, 1) := by decide +kernel
theorem d_Kc_fillDown_42 : decode b_Kc_fillDown 42 = .ok (.iconst 5, 1) := by decide +kernel
theorem d_Kc_fillDown_43 : decode b_Kc_fillDown 43 = .ok (.imul, 1) := by decide +kernel
theorem d_Kc_fillDown_44 : decode b_Kc_fillDown 44 = .ok (.iconst 5, 1) := by decide +kernel
theorem d_Kc_fillDown_45 : decode b_Kc_fillDown 45 = .ok (.invokestatic 34, 3) := by decide +kernel
theorem d_Kc_fillDown_48 : decode b_Kc_fillDown 48 = .ok (.iinc 4 (-1), 3) := by decide +kernel
theorem d_Kc_fillDown_51 : decode b_Kc_fillDown 51 = .ok (.goto (-48), 3) := by decide +kernel
theorem d_Kc_fillDown_54 : decode b_Kc_fillDown 54 = .ok (.return_, 1) := by decide +kernel
theorem d_Kc_byteAt_0 : decode b_Kc_byteAt 0 = .ok (.aload_n 0, 1) := by decide +kernel
theorem d_Kc_byteAt_1 : decode b_Kc_byteAt 1 = .ok (.getfield 9, 3) := by decide +kernel
theorem d_Kc_byteAt_4 : decode b_Kc_byteAt 4 = .ok (.iload_n 1, 1) := by decide +kernel
theorem d_Kc_byteAt_5 : decode b_Kc_byteAt 5 = .ok (.bipush 20, 2) := by decide +kernel
theorem d_Kc_byteAt_7 : decode b_Kc_byteAt 7 = .ok (.imul, 1) := by decide +kernel
theorem d_Kc_byteAt_8 : decode b_Kc_byteAt 8 = .ok (.iload_n 2, 1) := by decide +kernel
theorem d_Kc_byteAt_9 : decode b_Kc_byteAt 9 = .ok (.iadd, 1) := by decide +kernel
theorem d_Kc_byteAt_10 : decode b_Kc_byteAt 10 = .ok (.invokestatic 40, 3) := by decide +kernel
theorem d_Kc_byteAt_13 : decode b_Kc_byteAt 13 = .ok (.ireturn, 1) := by decide +kernel
theorem d_Kc_writeKey_0 : decode b_Kc_writeKey 0 = .ok (.iconst 0, 1) := by decide +kernel
theorem d_Kc_writeKey_1 : decode b_Kc_writeKey 1 = .ok (.istore 4, 2) := by decide +kernel
theorem d_Kc_writeKey_3 : decode b_Kc_writeKey 3 = .ok (.iload 4, 2) := by decide +kernel
theorem d_Kc_writeKey_5 : decode b_Kc_writeKey 5 = .ok (.bipush 20, 2) := by decide +kernel
theorem d_Kc_writeKey_7 : decode b_Kc_writeKey 7 = .ok (.if_icmp .ge 22, 3) := by decide +kernel
theorem d_Kc_writeKey_10 : decode b_Kc_writeKey 10 = .ok (.aload_n 2, 1) := by decide +kernel
theorem d_Kc_writeKey_11 : decode b_Kc_writeKey 11 = .ok (.iload_n 3, 1) := by decide +kernel
theorem d_Kc_writeKey_12 : decode b_Kc_writeKey 12 = .ok (.iload 4, 2) := by decide +kernel
theorem d_Kc_writeKey_14 : decode b_Kc_writeKey 14 = .ok (.iadd, 1) := by decide +kernel
theorem d_Kc_writeKey_15 : decode b_Kc_writeKey 15 = .ok (.aload_n 0, 1) := by decide +kernel
theorem d_Kc_writeKey_16 : decode b_Kc_writeKey 16 = .ok (.iload_n 1, 1) := by decide +kernel
theorem d_Kc_writeKey_17 : decode b_Kc_writeKey 17 = .ok (.iload 4, 2) := by decide +kernel
theorem d_Kc_writeKey_19 : decode b_Kc_writeKey 19 = .ok (.invokevirtual 44, 3) := by decide +kernel
theorem d_Kc_writeKey_22 : decode b_Kc_writeKey 22 = .ok (.iastore, 1) := by decide +kernel
theorem d_Kc_writeKey_23 : decode b_Kc_writeKey 23 = .ok (.iinc 4 1, 3) := by decide +kernel
theorem d_Kc_writeKey_26 : decode b_Kc_writeKey 26 = .ok (.goto (-23), 3) := by decide +kernel
theorem d_Kc_writeKey_29 : decode b_Kc_writeKey 29 = .ok (.return_, 1) := by decide +kernel
theorem d_Kc_learnFrom_0 : decode b_Kc_learnFrom 0 = .ok (.aload_n 1, 1) := by decide +kernel
theorem d_Kc_learnFrom_1 : decode b_Kc_learnFrom 1 = .ok (.getfield 9, 3) := by decide +kernel
theorem d_Kc_learnFrom_4 : decode b_Kc_learnFrom 4 = .ok (.iload_n 2, 1) := by decide +kernel
theorem d_Kc_learnFrom_5 : decode b_Kc_learnFrom 5 = .ok (.iconst 5, 1) := by decide +kernel
theorem d_Kc_learnFrom_6 : decode b_Kc_learnFrom 6 = .ok (.imul, 1) := by decide +kernel
theorem d_Kc_learnFrom_7 : decode b_Kc_learnFrom 7 = .ok (.aload_n 0, 1) := by decide +kernel
theorem d_Kc_learnFrom_8 : decode b_Kc_learnFrom 8 = .ok (.getfield 9, 3) := by decide +kernel
theorem d_Kc_learnFrom_11 : decode b_Kc_learnFrom 11 = .ok (.iload_n 2, 1) := by decide +kernel
theorem d_Kc_learnFrom_12 : decode b_Kc_learnFrom 12 = .ok (.iconst 5, 1) := by decide +kernel
theorem d_Kc_learnFrom_13 : decode b_Kc_learnFrom 13 = .ok (.imul, 1) := by decide +kernel
theorem d_Kc_learnFrom_14 : decode b_Kc_learnFrom 14 = .ok (.iconst 5, 1) := by decide +kernel
theorem d_Kc_learnFrom_15 : decode b_Kc_learnFrom 15 = .ok (.invokestatic 34, 3) := by decide +kernel
theorem d_Kc_learnFrom_18 : decode b_Kc_learnFrom 18 = .ok (.aload_n 0, 1) := by decide +kernel
theorem d_Kc_learnFrom_19 : decode b_Kc_learnFrom 19 = .ok (.iload_n 2, 1) := by decide +kernel
theorem d_Kc_learnFrom_20 : decode b_Kc_learnFrom 20 = .ok (.putfield 15, 3) := by decide +kernel
theorem d_Kc_learnFrom_23 : decode b_Kc_learnFrom 23 = .ok (.aload_n 0, 1) := by decide +kernel
theorem d_Kc_learnFrom_24 : decode b_Kc_learnFrom 24 = .ok (.iload_n 2, 1) := by decide +kernel
theorem d_Kc_learnFrom_25 : decode b_Kc_learnFrom 25 = .ok (.putfield 19, 3) := by decide +kernel
theorem d_Kc_learnFrom_28 : decode b_Kc_learnFrom 28 = .ok (.return_, 1) := by decide +kernel
theorem d_Kc_readKey_0 : decode b_Kc_readKey 0 = .ok (.iconst 0, 1) := by decide +kernel
theorem d_Kc_readKey_1 : decode b_Kc_readKey 1 = .ok (.istore 4, 2) := by decide +kernel
theorem d_Kc_readKey_3 : decode b_Kc_readKey 3 = .ok (.iload 4, 2) := by decide +kernel
theorem d_Kc_readKey_5 : decode b_Kc_readKey 5 = .ok (.iconst 5, 1) := by decide +kernel
theorem d_Kc_readKey_6 : decode b_Kc_readKey 6 = .ok (.if_icmp .ge 30, 3) := by decide +kernel
theorem d_Kc_readKey_9 : decode b_Kc_readKey 9 = .ok (.aload_n 0, 1) := by decide +kernel
theorem d_Kc_readKey_10 : decode b_Kc_readKey 10 = .ok (.getfield 9, 3) := by decide +kernel
theorem d_Kc_readKey_13 : decode b_Kc_readKey 13 = .ok (.iload_n 1, 1) := by decide +kernel
theorem d_Kc_readKey_14 : decode b_Kc_readKey 14 = .ok (.iconst 5, 1) := by decide +kernel
theorem d_Kc_readKey_15 : decode b_Kc_readKey 15 = .ok (.imul, 1) := by decide +kernel
theorem d_Kc_readKey_16 : decode b_Kc_readKey 16 = .ok (.iload 4, 2) := by decide +kernel
theorem d_Kc_readKey_18 : decode b_Kc_readKey 18 = .ok (.iadd, 1) := by decide +kernel
theorem d_Kc_readKey_19 : decode b_Kc_readKey 19 = .ok (.aload_n 2, 1) := by decide +kernel
theorem d_Kc_readKey_20 : decode b_Kc_readKey 20 = .ok (.iload_n 3, 1) := by decide +kernel
theorem d_Kc_readKey_21 : decode b_Kc_readKey 21 = .ok (.iconst 4, 1) := by decide +kernel
theorem d_Kc_readKey_22 : decode b_Kc_readKey 22 = .ok (.iload 4, 2) := by decide +kernel
theorem d_Kc_readKey_24 : decode b_Kc_readKey 24 = .ok (.imul, 1) := by decide +kernel
theorem d_Kc_readKey_25 : decode b_Kc_readKey 25 = .ok (.iadd, 1) := by decide +kernel
theorem d_Kc_readKey_26 : decode b_Kc_readKey 26 = .ok (.invokestatic 52, 3) := by decide +kernel
theorem d_Kc_readKey_29 : decode b_Kc_readKey 29 = .ok (.iastore, 1) := by decide +kernel
theorem d_Kc_readKey_30 : decode b_Kc_readKey 30 = .ok (.iinc 4 1, 3) := by decide +kernel
theorem d_Kc_readKey_33 : decode b_Kc_readKey 33 = .ok (.goto (-30), 3) := by decide +kernel
theorem d_Kc_readKey_36 : decode b_Kc_readKey 36 = .ok (.return_, 1) := by decide +kernel
theorem d_Kc_learnRoot_0 : decode b_Kc_learnRoot 0 = .ok (.aload_n 0, 1) := by decide +kernel
theorem d_Kc_learnRoot_1 : decode b_Kc_learnRoot 1 = .ok (.iconst 0, 1) := by decide +kernel
theorem d_Kc_learnRoot_2 : decode b_Kc_learnRoot 2 = .ok (.aload_n 1, 1) := by decide +kernel
theorem d_Kc_learnRoot_3 : decode b_Kc_learnRoot 3 = .ok (.iload_n 2, 1) := by decide +kernel
theorem d_Kc_learnRoot_4 : decode b_Kc_learnRoot 4 = .ok (.invokevirtual 48, 3) := by decide +kernel
theorem d_Kc_learnRoot_7 : decode b_Kc_learnRoot 7 = .ok (.aload_n 0, 1) := by decide +kernel
theorem d_Kc_learnRoot_8 : decode b_Kc_learnRoot 8 = .ok (.iconst 0, 1) := by decide +kernel
theorem d_Kc_learnRoot_9 : decode b_Kc_learnRoot 9 = .ok (.putfield 15, 3) := by decide +kernel
theorem d_Kc_learnRoot_12 : decode b_Kc_learnRoot 12 = .ok (.aload_n 0, 1) := by decide +kernel
theorem d_Kc_learnRoot_13 : decode b_Kc_learnRoot 13 = .ok (.iconst 0, 1) := by decide +kernel
theorem d_Kc_learnRoot_14 : decode b_Kc_learnRoot 14 = .ok (.putfield 19, 3) := by decide +kernel
theorem d_Kc_learnRoot_17 : decode b_Kc_learnRoot 17 = .ok (.return_, 1) := by decide +kernel
theorem d_Kc_isKey_0 : decode b_Kc_isKey 0 = .ok (.iconst 0, 1) := by decide +kernel
theorem d_Kc_isKey_1 : decode b_Kc_isKey 1 = .ok (.istore 4, 2) := by decide +kernel
theorem d_Kc_isKey_3 : decode b_Kc_isKey 3 = .ok (.iload 4, 2) := by decide +kernel
theorem d_Kc_isKey_5 : decode b_Kc_isKey 5 = .ok (.bipush 20, 2) := by decide +kernel
theorem d_Kc_isKey_7 : decode b_Kc_isKey 7 = .ok (.if_icmp .ge 27, 3) := by decide +kernel
theorem d_Kc_isKey_10 : decode b_Kc_isKey 10 = .ok (.aload_n 2, 1) := by decide +kernel
theorem d_Kc_isKey_11 : decode b_Kc_isKey 11 = .ok (.iload_n 3, 1) := by decide +kernel
theorem d_Kc_isKey_12 : decode b_Kc_isKey 12 = .ok (.iload 4, 2) := by decide +kernel
theorem d_Kc_isKey_14 : decode b_Kc_isKey 14 = .ok (.iadd, 1) := by decide +kernel
theorem d_Kc_isKey_15 : decode b_Kc_isKey 15 = .ok (.iaload, 1) := by decide +kernel
theorem d_Kc_isKey_16 : decode b_Kc_isKey 16 = .ok (.aload_n 0, 1) := by decide +kernel
theorem d_Kc_isKey_17 : decode b_Kc_isKey 17 = .ok (.iload_n 1, 1) := by decide +kernel
theorem d_Kc_isKey_18 : decode b_Kc_isKey 18 = .ok (.iload 4, 2) := by decide +kernel
theorem d_Kc_isKey_20 : decode b_Kc_isKey 20 = .ok (.invokevirtual 44, 3) := by decide +kernel
theorem d_Kc_isKey_23 : decode b_Kc_isKey 23 = .ok (.if_icmp .eq 5, 3) := by decide +kernel
theorem d_Kc_isKey_26 : decode b_Kc_isKey 26 = .ok (.iconst 0, 1) := by decide +kernel
theorem d_Kc_isKey_27 : decode b_Kc_isKey 27 = .ok (.ireturn, 1) := by decide +kernel
theorem d_Kc_isKey_28 : decode b_Kc_isKey 28 = .ok (.iinc 4 1, 3) := by decide +kernel
theorem d_Kc_isKey_31 : decode b_Kc_isKey 31 = .ok (.goto (-28), 3) := by decide +kernel
theorem d_Kc_isKey_34 : decode b_Kc_isKey 34 = .ok (.iconst 1, 1) := by decide +kernel
theorem d_Kc_isKey_35 : decode b_Kc_isKey 35 = .ok (.ireturn, 1) := by decide +kernel
theorem d_Kc_raiseTo_0 : decode b_Kc_raiseTo 0 = .ok (.aload_n 0, 1) := by decide +kernel
theorem d_Kc_raiseTo_1 : decode b_Kc_raiseTo 1 = .ok (.getfield 19, 3) := by decide +kernel
theorem d_Kc_raiseTo_4 : decode b_Kc_raiseTo 4 = .ok (.iconst 1, 1) := by decide +kernel
theorem d_Kc_raiseTo_5 : decode b_Kc_raiseTo 5 = .ok (.iadd, 1) := by decide +kernel
theorem d_Kc_raiseTo_6 : decode b_Kc_raiseTo 6 = .ok (.iconst 5, 1) := by decide +kernel
theorem d_Kc_raiseTo_7 : decode b_Kc_raiseTo 7 = .ok (.imul, 1) := by decide +kernel
theorem d_Kc_raiseTo_8 : decode b_Kc_raiseTo 8 = .ok (.istore_n 3, 1) := by decide +kernel
theorem d_Kc_raiseTo_9 : decode b_Kc_raiseTo 9 = .ok (.aload_n 2, 1) := by decide +kernel
theorem d_Kc_raiseTo_10 : decode b_Kc_raiseTo 10 = .ok (.aload_n 0, 1) := by decide +kernel
theorem d_Kc_raiseTo_11 : decode b_Kc_raiseTo 11 = .ok (.getfield 9, 3) := by decide +kernel
theorem d_Kc_raiseTo_14 : decode b_Kc_raiseTo 14 = .ok (.iload_n 3, 1) := by decide +kernel
theorem d_Kc_raiseTo_15 : decode b_Kc_raiseTo 15 = .ok (.iconst 5, 1) := by decide +kernel
theorem d_Kc_raiseTo_16 : decode b_Kc_raiseTo 16 = .ok (.getstatic 22, 3) := by decide +kernel
theorem d_Kc_raiseTo_19 : decode b_Kc_raiseTo 19 = .ok (.getstatic 22, 3) := by decide +kernel
theorem d_Kc_raiseTo_22 : decode b_Kc_raiseTo 22 = .ok (.arraylength, 1) := by decide +kernel
theorem d_Kc_raiseTo_23 : decode b_Kc_raiseTo 23 = .ok (.invokevirtual 25, 3) := by decide +kernel
theorem d_Kc_raiseTo_26 : decode b_Kc_raiseTo 26 = .ok (.iconst 0, 1) := by decide +kernel
theorem d_Kc_raiseTo_27 : decode b_Kc_raiseTo 27 = .ok (.istore 4, 2) := by decide +kernel
theorem d_Kc_raiseTo_29 : decode b_Kc_raiseTo 29 = .ok (.iload 4, 2) := by decide +kernel
theorem d_Kc_raiseTo_31 : decode b_Kc_raiseTo 31 = .ok (.iconst 5, 1) := by decide +kernel
theorem d_Kc_raiseTo_32 : decode b_Kc_raiseTo 32 = .ok (.if_icmp .ge 35, 3) := by decide +kernel
theorem d_Kc_raiseTo_35 : decode b_Kc_raiseTo 35 = .ok (.aload_n 2, 1) := by decide +kernel
theorem d_Kc_raiseTo_36 : decode b_Kc_raiseTo 36 = .ok (.getfield 31, 3) := by decide +kernel
theorem d_Kc_raiseTo_39 : decode b_Kc_raiseTo 39 = .ok (.iload 4, 2) := by decide +kernel
theorem d_Kc_raiseTo_41 : decode b_Kc_raiseTo 41 = .ok (.iaload, 1) := by decide +kernel
theorem d_Kc_raiseTo_42 : decode b_Kc_raiseTo 42 = .ok (.aload_n 0, 1) := by decide +kernel
theorem d_Kc_raiseTo_43 : decode b_Kc_raiseTo 43 = .ok (.getfield 9, 3) := by decide +kernel
theorem d_Kc_raiseTo_46 : decode b_Kc_raiseTo 46 = .ok (.aload_n 0, 1) := by decide +kernel
theorem d_Kc_raiseTo_47 : decode b_Kc_raiseTo 47 = .ok (.getfield 19, 3) := by decide +kernel
theorem d_Kc_raiseTo_50 : decode b_Kc_raiseTo 50 = .ok (.iconst 5, 1) := by decide +kernel
theorem d_Kc_raiseTo_51 : decode b_Kc_raiseTo 51 = .ok (.imul, 1) := by decide +kernel
theorem d_Kc_raiseTo_52 : decode b_Kc_raiseTo 52 = .ok (.iload 4, 2) := by decide +kernel
theorem d_Kc_raiseTo_54 : decode b_Kc_raiseTo 54 = .ok (.iadd, 1) := by decide +kernel
theorem d_Kc_raiseTo_55 : decode b_Kc_raiseTo 55 = .ok (.iaload, 1) := by decide +kernel
theorem d_Kc_raiseTo_56 : decode b_Kc_raiseTo 56 = .ok (.if_icmp .eq 5, 3) := by decide +kernel
theorem d_Kc_raiseTo_59 : decode b_Kc_raiseTo 59 = .ok (.iconst 0, 1) := by decide +kernel
theorem d_Kc_raiseTo_60 : decode b_Kc_raiseTo 60 = .ok (.ireturn, 1) := by decide +kernel
theorem d_Kc_raiseTo_61 : decode b_Kc_raiseTo 61 = .ok (.iinc 4 1, 3) := by decide +kernel
theorem d_Kc_raiseTo_64 : decode b_Kc_raiseTo 64 = .ok (.goto (-35), 3) := by decide +kernel
theorem d_Kc_raiseTo_67 : decode b_Kc_raiseTo 67 = .ok (.aload_n 0, 1) := by decide +kernel
theorem d_Kc_raiseTo_68 : decode b_Kc_raiseTo 68 = .ok (.iload_n 1, 1) := by decide +kernel
theorem d_Kc_raiseTo_69 : decode b_Kc_raiseTo 69 = .ok (.putfield 19, 3) := by decide +kernel
theorem d_Kc_raiseTo_72 : decode b_Kc_raiseTo 72 = .ok (.iconst 1, 1) := by decide +kernel
theorem d_Kc_raiseTo_73 : decode b_Kc_raiseTo 73 = .ok (.ireturn, 1) := by decide +kernel
theorem d_Kc_sealPacket_0 : decode b_Kc_sealPacket 0 = .ok (.aload_n 3, 1) := by decide +kernel
theorem d_Kc_sealPacket_1 : decode b_Kc_sealPacket 1 = .ok (.aload_n 0, 1) := by decide +kernel
theorem d_Kc_sealPacket_2 : decode b_Kc_sealPacket 2 = .ok (.getfield 9, 3) := by decide +kernel
theorem d_Kc_sealPacket_5 : decode b_Kc_sealPacket 5 = .ok (.iload_n 1, 1) := by decide +kernel
theorem d_Kc_sealPacket_6 : decode b_Kc_sealPacket 6 = .ok (.iconst 5, 1) := by decide +kernel
theorem d_Kc_sealPacket_7 : decode b_Kc_sealPacket 7 = .ok (.imul, 1) := by decide +kernel
theorem d_Kc_sealPacket_8 : decode b_Kc_sealPacket 8 = .ok (.iconst 5, 1) := by decide +kernel
theorem d_Kc_sealPacket_9 : decode b_Kc_sealPacket 9 = .ok (.getstatic 55, 3) := by decide +kernel
theorem d_Kc_sealPacket_12 : decode b_Kc_sealPacket 12 = .ok (.getstatic 55, 3) := by decide +kernel
theorem d_Kc_sealPacket_15 : decode b_Kc_sealPacket 15 = .ok (.arraylength, 1) := by decide +kernel
theorem d_Kc_sealPacket_16 : decode b_Kc_sealPacket 16 = .ok (.invokevirtual 25, 3) := by decide +kernel
theorem d_Kc_sealPacket_19 : decode b_Kc_sealPacket 19 = .ok (.aload_n 3, 1) := by decide +kernel
theorem d_Kc_sealPacket_20 : decode b_Kc_sealPacket 20 = .ok (.getfield 31, 3) := by decide +kernel
theorem d_Kc_sealPacket_23 : decode b_Kc_sealPacket 23 = .ok (.iconst 0, 1) := by decide +kernel
theorem d_Kc_sealPacket_24 : decode b_Kc_sealPacket 24 = .ok (.aload_n 3, 1) := by decide +kernel
theorem d_Kc_sealPacket_25 : decode b_Kc_sealPacket 25 = .ok (.getfield 58, 3) := by decide +kernel
theorem d_Kc_sealPacket_28 : decode b_Kc_sealPacket 28 = .ok (.iconst 0, 1) := by decide +kernel
theorem d_Kc_sealPacket_29 : decode b_Kc_sealPacket 29 = .ok (.bipush 8, 2) := by decide +kernel
theorem d_Kc_sealPacket_31 : decode b_Kc_sealPacket 31 = .ok (.invokestatic 34, 3) := by decide +kernel
theorem d_Kc_sealPacket_34 : decode b_Kc_sealPacket 34 = .ok (.aload_n 3, 1) := by decide +kernel
theorem d_Kc_sealPacket_35 : decode b_Kc_sealPacket 35 = .ok (.aload_n 3, 1) := by decide +kernel
theorem d_Kc_sealPacket_36 : decode b_Kc_sealPacket 36 = .ok (.getfield 58, 3) := by decide +kernel
theorem d_Kc_sealPacket_39 : decode b_Kc_sealPacket 39 = .ok (.iconst 0, 1) := by decide +kernel
theorem d_Kc_sealPacket_40 : decode b_Kc_sealPacket 40 = .ok (.bipush 8, 2) := by decide +kernel
theorem d_Kc_sealPacket_42 : decode b_Kc_sealPacket 42 = .ok (.aload_n 2, 1) := by decide +kernel
theorem d_Kc_sealPacket_43 : decode b_Kc_sealPacket 43 = .ok (.getfield 61, 3) := by decide +kernel
theorem d_Kc_sealPacket_46 : decode b_Kc_sealPacket 46 = .ok (.aload_n 2, 1) := by decide +kernel
theorem d_Kc_sealPacket_47 : decode b_Kc_sealPacket 47 = .ok (.invokevirtual 66, 3) := by decide +kernel
theorem d_Kc_sealPacket_50 : decode b_Kc_sealPacket 50 = .ok (.invokevirtual 25, 3) := by decide +kernel
theorem d_Kc_sealPacket_53 : decode b_Kc_sealPacket 53 = .ok (.return_, 1) := by decide +kernel
theorem d_Of_isReceiver_0 : decode b_Of_isReceiver 0 = .ok (.iload_n 1, 1) := by decide +kernel
theorem d_Of_isReceiver_1 : decode b_Of_isReceiver 1 = .ok (.ifCond .lt 13, 3) := by decide +kernel
theorem d_Of_isReceiver_4 : decode b_Of_isReceiver 4 = .ok (.iload_n 1, 1) := by decide +kernel
theorem d_Of_isReceiver_5 : decode b_Of_isReceiver 5 = .ok (.bipush 8, 2) := by decide +kernel
theorem d_Of_isReceiver_7 : decode b_Of_isReceiver 7 = .ok (.if_icmp .ge 7, 3) := by decide +kernel
theorem d_Of_isReceiver_10 : decode b_Of_isReceiver 10 = .ok (.iconst 1, 1) := by decide +kernel
theorem d_Of_isReceiver_11 : decode b_Of_isReceiver 11 = .ok (.goto 4, 3) := by decide +kernel
theorem d_Of_isReceiver_14 : decode b_Of_isReceiver 14 = .ok (.iconst 0, 1) := by decide +kernel
theorem d_Of_isReceiver_15 : decode b_Of_isReceiver 15 = .ok (.ireturn, 1) := by decide +kernel
theorem d_Lw_cell_0 : decode b_Lw_cell 0 = .ok (.iload_n 1, 1) := by decide +kernel
theorem d_Lw_cell_1 : decode b_Lw_cell 1 = .ok (.aload_n 0, 1) := by decide +kernel
theorem d_Lw_cell_2 : decode b_Lw_cell 2 = .ok (.arraylength, 1) := by decide +kernel
theorem d_Lw_cell_3 : decode b_Lw_cell 3 = .ok (.if_icmp .ge 9, 3) := by decide +kernel
theorem d_Lw_cell_6 : decode b_Lw_cell 6 = .ok (.aload_n 0, 1) := by decide +kernel
theorem d_Lw_cell_7 : decode b_Lw_cell 7 = .ok (.iload_n 1, 1) := by decide +kernel
theorem d_Lw_cell_8 : decode b_Lw_cell 8 = .ok (.iaload, 1) := by decide +kernel
theorem d_Lw_cell_9 : decode b_Lw_cell 9 = .ok (.goto 4, 3) := by decide +kernel
theorem d_Lw_cell_12 : decode b_Lw_cell 12 = .ok (.iconst 0, 1) := by decide +kernel
theorem d_Lw_cell_13 : decode b_Lw_cell 13 = .ok (.ireturn, 1) := by decide +kernel
