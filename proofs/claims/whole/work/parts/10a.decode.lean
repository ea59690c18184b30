theorem d_Ck_intervalAt_0 : decode b_Ck_intervalAt 0 = .ok (.iload_n 1, 1) := by decide +kernel
theorem d_Ck_intervalAt_1 : decode b_Ck_intervalAt 1 = .ok (.aload_n 0, 1) := by decide +kernel
theorem d_Ck_intervalAt_2 : decode b_Ck_intervalAt 2 = .ok (.getfield 13, 3) := by decide +kernel
theorem d_Ck_intervalAt_5 : decode b_Ck_intervalAt 5 = .ok (.idiv, 1) := by decide +kernel
theorem d_Ck_intervalAt_6 : decode b_Ck_intervalAt 6 = .ok (.iconst 1, 1) := by decide +kernel
theorem d_Ck_intervalAt_7 : decode b_Ck_intervalAt 7 = .ok (.iadd, 1) := by decide +kernel
theorem d_Ck_intervalAt_8 : decode b_Ck_intervalAt 8 = .ok (.ireturn, 1) := by decide +kernel
theorem d_Ck_canHaveShown_0 : decode b_Ck_canHaveShown 0 = .ok (.aload_n 0, 1) := by decide +kernel
theorem d_Ck_canHaveShown_1 : decode b_Ck_canHaveShown 1 = .ok (.getfield 19, 3) := by decide +kernel
theorem d_Ck_canHaveShown_4 : decode b_Ck_canHaveShown 4 = .ok (.iload_n 2, 1) := by decide +kernel
theorem d_Ck_canHaveShown_5 : decode b_Ck_canHaveShown 5 = .ok (.iadd, 1) := by decide +kernel
theorem d_Ck_canHaveShown_6 : decode b_Ck_canHaveShown 6 = .ok (.aload_n 0, 1) := by decide +kernel
theorem d_Ck_canHaveShown_7 : decode b_Ck_canHaveShown 7 = .ok (.getfield 16, 3) := by decide +kernel
theorem d_Ck_canHaveShown_10 : decode b_Ck_canHaveShown 10 = .ok (.iadd, 1) := by decide +kernel
theorem d_Ck_canHaveShown_11 : decode b_Ck_canHaveShown 11 = .ok (.iload_n 1, 1) := by decide +kernel
theorem d_Ck_canHaveShown_12 : decode b_Ck_canHaveShown 12 = .ok (.aload_n 0, 1) := by decide +kernel
theorem d_Ck_canHaveShown_13 : decode b_Ck_canHaveShown 13 = .ok (.getfield 7, 3) := by decide +kernel
theorem d_Ck_canHaveShown_16 : decode b_Ck_canHaveShown 16 = .ok (.iadd, 1) := by decide +kernel
theorem d_Ck_canHaveShown_17 : decode b_Ck_canHaveShown 17 = .ok (.iconst 1, 1) := by decide +kernel
theorem d_Ck_canHaveShown_18 : decode b_Ck_canHaveShown 18 = .ok (.isub, 1) := by decide +kernel
theorem d_Ck_canHaveShown_19 : decode b_Ck_canHaveShown 19 = .ok (.aload_n 0, 1) := by decide +kernel
theorem d_Ck_canHaveShown_20 : decode b_Ck_canHaveShown 20 = .ok (.getfield 13, 3) := by decide +kernel
theorem d_Ck_canHaveShown_23 : decode b_Ck_canHaveShown 23 = .ok (.imul, 1) := by decide +kernel
theorem d_Ck_canHaveShown_24 : decode b_Ck_canHaveShown 24 = .ok (.if_icmp .lt 7, 3) := by decide +kernel
theorem d_Ck_canHaveShown_27 : decode b_Ck_canHaveShown 27 = .ok (.iconst 1, 1) := by decide +kernel
theorem d_Ck_canHaveShown_28 : decode b_Ck_canHaveShown 28 = .ok (.goto 4, 3) := by decide +kernel
theorem d_Ck_canHaveShown_31 : decode b_Ck_canHaveShown 31 = .ok (.iconst 0, 1) := by decide +kernel
theorem d_Ck_canHaveShown_32 : decode b_Ck_canHaveShown 32 = .ok (.ireturn, 1) := by decide +kernel
theorem d_Of_byteOf_0 : decode b_Of_byteOf 0 = .ok (.aload_n 0, 1) := by decide +kernel
theorem d_Of_byteOf_1 : decode b_Of_byteOf 1 = .ok (.iload_n 1, 1) := by decide +kernel
theorem d_Of_byteOf_2 : decode b_Of_byteOf 2 = .ok (.iconst 4, 1) := by decide +kernel
theorem d_Of_byteOf_3 : decode b_Of_byteOf 3 = .ok (.idiv, 1) := by decide +kernel
theorem d_Of_byteOf_4 : decode b_Of_byteOf 4 = .ok (.iaload, 1) := by decide +kernel
theorem d_Of_byteOf_5 : decode b_Of_byteOf 5 = .ok (.bipush 24, 2) := by decide +kernel
theorem d_Of_byteOf_7 : decode b_Of_byteOf 7 = .ok (.bipush 8, 2) := by decide +kernel
theorem d_Of_byteOf_9 : decode b_Of_byteOf 9 = .ok (.iload_n 1, 1) := by decide +kernel
theorem d_Of_byteOf_10 : decode b_Of_byteOf 10 = .ok (.iconst 4, 1) := by decide +kernel
theorem d_Of_byteOf_11 : decode b_Of_byteOf 11 = .ok (.irem, 1) := by decide +kernel
theorem d_Of_byteOf_12 : decode b_Of_byteOf 12 = .ok (.imul, 1) := by decide +kernel
theorem d_Of_byteOf_13 : decode b_Of_byteOf 13 = .ok (.isub, 1) := by decide +kernel
theorem d_Of_byteOf_14 : decode b_Of_byteOf 14 = .ok (.iushr, 1) := by decide +kernel
theorem d_Of_byteOf_15 : decode b_Of_byteOf 15 = .ok (.sipush 255, 3) := by decide +kernel
theorem d_Of_byteOf_18 : decode b_Of_byteOf 18 = .ok (.iand, 1) := by decide +kernel
theorem d_Of_byteOf_19 : decode b_Of_byteOf 19 = .ok (.ireturn, 1) := by decide +kernel
theorem d_Of_wordAt_0 : decode b_Of_wordAt 0 = .ok (.aload_n 0, 1) := by decide +kernel
theorem d_Of_wordAt_1 : decode b_Of_wordAt 1 = .ok (.iload_n 1, 1) := by decide +kernel
theorem d_Of_wordAt_2 : decode b_Of_wordAt 2 = .ok (.iaload, 1) := by decide +kernel
theorem d_Of_wordAt_3 : decode b_Of_wordAt 3 = .ok (.bipush 24, 2) := by decide +kernel
theorem d_Of_wordAt_5 : decode b_Of_wordAt 5 = .ok (.ishl, 1) := by decide +kernel
theorem d_Of_wordAt_6 : decode b_Of_wordAt 6 = .ok (.aload_n 0, 1) := by decide +kernel
theorem d_Of_wordAt_7 : decode b_Of_wordAt 7 = .ok (.iload_n 1, 1) := by decide +kernel
theorem d_Of_wordAt_8 : decode b_Of_wordAt 8 = .ok (.iconst 1, 1) := by decide +kernel
theorem d_Of_wordAt_9 : decode b_Of_wordAt 9 = .ok (.iadd, 1) := by decide +kernel
theorem d_Of_wordAt_10 : decode b_Of_wordAt 10 = .ok (.iaload, 1) := by decide +kernel
theorem d_Of_wordAt_11 : decode b_Of_wordAt 11 = .ok (.bipush 16, 2) := by decide +kernel
theorem d_Of_wordAt_13 : decode b_Of_wordAt 13 = .ok (.ishl, 1) := by decide +kernel
theorem d_Of_wordAt_14 : decode b_Of_wordAt 14 = .ok (.ior, 1) := by decide +kernel
theorem d_Of_wordAt_15 : decode b_Of_wordAt 15 = .ok (.aload_n 0, 1) := by decide +kernel
theorem d_Of_wordAt_16 : decode b_Of_wordAt 16 = .ok (.iload_n 1, 1) := by decide +kernel
theorem d_Of_wordAt_17 : decode b_Of_wordAt 17 = .ok (.iconst 2, 1) := by decide +kernel
theorem d_Of_wordAt_18 : decode b_Of_wordAt 18 = .ok (.iadd, 1) := by decide +kernel
theorem d_Of_wordAt_19 : decode b_Of_wordAt 19 = .ok (.iaload, 1) := by decide +kernel
theorem d_Of_wordAt_20 : decode b_Of_wordAt 20 = .ok (.bipush 8, 2) := by decide +kernel
theorem d_Of_wordAt_22 : decode b_Of_wordAt 22 = .ok (.ishl, 1) := by decide +kernel
theorem d_Of_wordAt_23 : decode b_Of_wordAt 23 = .ok (.ior, 1) := by decide +kernel
theorem d_Of_wordAt_24 : decode b_Of_wordAt 24 = .ok (.aload_n 0, 1) := by decide +kernel
theorem d_Of_wordAt_25 : decode b_Of_wordAt 25 = .ok (.iload_n 1, 1) := by decide +kernel
theorem d_Of_wordAt_26 : decode b_Of_wordAt 26 = .ok (.iconst 3, 1) := by decide +kernel
theorem d_Of_wordAt_27 : decode b_Of_wordAt 27 = .ok (.iadd, 1) := by decide +kernel
theorem d_Of_wordAt_28 : decode b_Of_wordAt 28 = .ok (.iaload, 1) := by decide +kernel
theorem d_Of_wordAt_29 : decode b_Of_wordAt 29 = .ok (.ior, 1) := by decide +kernel
theorem d_Of_wordAt_30 : decode b_Of_wordAt 30 = .ok (.ireturn, 1) := by decide +kernel
theorem d_Of_chainOf_0 : decode b_Of_chainOf 0 = .ok (.iload_n 0, 1) := by decide +kernel
theorem d_Of_chainOf_1 : decode b_Of_chainOf 1 = .ok (.iconst 1, 1) := by decide +kernel
theorem d_Of_chainOf_2 : decode b_Of_chainOf 2 = .ok (.isub, 1) := by decide +kernel
theorem d_Of_chainOf_3 : decode b_Of_chainOf 3 = .ok (.bipush 64, 2) := by decide +kernel
theorem d_Of_chainOf_5 : decode b_Of_chainOf 5 = .ok (.idiv, 1) := by decide +kernel
theorem d_Of_chainOf_6 : decode b_Of_chainOf 6 = .ok (.ireturn, 1) := by decide +kernel
theorem d_Of_numberInChain_0 : decode b_Of_numberInChain 0 = .ok (.iload_n 0, 1) := by decide +kernel
theorem d_Of_numberInChain_1 : decode b_Of_numberInChain 1 = .ok (.iconst 1, 1) := by decide +kernel
theorem d_Of_numberInChain_2 : decode b_Of_numberInChain 2 = .ok (.isub, 1) := by decide +kernel
theorem d_Of_numberInChain_3 : decode b_Of_numberInChain 3 = .ok (.bipush 64, 2) := by decide +kernel
theorem d_Of_numberInChain_5 : decode b_Of_numberInChain 5 = .ok (.irem, 1) := by decide +kernel
theorem d_Of_numberInChain_6 : decode b_Of_numberInChain 6 = .ok (.iconst 1, 1) := by decide +kernel
theorem d_Of_numberInChain_7 : decode b_Of_numberInChain 7 = .ok (.iadd, 1) := by decide +kernel
theorem d_Of_numberInChain_8 : decode b_Of_numberInChain 8 = .ok (.ireturn, 1) := by decide +kernel
theorem d_Mt_floorMod_0 : decode b_Mt_floorMod 0 = .ok (.iload_n 0, 1) := by decide +kernel
theorem d_Mt_floorMod_1 : decode b_Mt_floorMod 1 = .ok (.iload_n 1, 1) := by decide +kernel
theorem d_Mt_floorMod_2 : decode b_Mt_floorMod 2 = .ok (.irem, 1) := by decide +kernel
theorem d_Mt_floorMod_3 : decode b_Mt_floorMod 3 = .ok (.istore_n 2, 1) := by decide +kernel
theorem d_Mt_floorMod_4 : decode b_Mt_floorMod 4 = .ok (.iload_n 0, 1) := by decide +kernel
theorem d_Mt_floorMod_5 : decode b_Mt_floorMod 5 = .ok (.iload_n 1, 1) := by decide +kernel
theorem d_Mt_floorMod_6 : decode b_Mt_floorMod 6 = .ok (.ixor, 1) := by decide +kernel
theorem d_Mt_floorMod_7 : decode b_Mt_floorMod 7 = .ok (.ifCond .ge 11, 3) := by decide +kernel
theorem d_Mt_floorMod_10 : decode b_Mt_floorMod 10 = .ok (.iload_n 2, 1) := by decide +kernel
theorem d_Mt_floorMod_11 : decode b_Mt_floorMod 11 = .ok (.ifCond .eq 7, 3) := by decide +kernel
theorem d_Mt_floorMod_14 : decode b_Mt_floorMod 14 = .ok (.iload_n 2, 1) := by decide +kernel
theorem d_Mt_floorMod_15 : decode b_Mt_floorMod 15 = .ok (.iload_n 1, 1) := by decide +kernel
theorem d_Mt_floorMod_16 : decode b_Mt_floorMod 16 = .ok (.iadd, 1) := by decide +kernel
theorem d_Mt_floorMod_17 : decode b_Mt_floorMod 17 = .ok (.ireturn, 1) := by decide +kernel
theorem d_Mt_floorMod_18 : decode b_Mt_floorMod 18 = .ok (.iload_n 2, 1) := by decide +kernel
theorem d_Mt_floorMod_19 : decode b_Mt_floorMod 19 = .ok (.ireturn, 1) := by decide +kernel
theorem d_Ar_fill_0 : decode b_Ar_fill 0 = .ok (.iconst 0, 1) := by decide +kernel
theorem d_Ar_fill_1 : decode b_Ar_fill 1 = .ok (.istore_n 2, 1) := by decide +kernel
theorem d_Ar_fill_2 : decode b_Ar_fill 2 = .ok (.aload_n 0, 1) := by decide +kernel
theorem d_Ar_fill_3 : decode b_Ar_fill 3 = .ok (.arraylength, 1) := by decide +kernel
theorem d_Ar_fill_4 : decode b_Ar_fill 4 = .ok (.istore_n 3, 1) := by decide +kernel
theorem d_Ar_fill_5 : decode b_Ar_fill 5 = .ok (.iload_n 2, 1) := by decide +kernel
theorem d_Ar_fill_6 : decode b_Ar_fill 6 = .ok (.iload_n 3, 1) := by decide +kernel
theorem d_Ar_fill_7 : decode b_Ar_fill 7 = .ok (.if_icmp .ge 13, 3) := by decide +kernel
theorem d_Ar_fill_10 : decode b_Ar_fill 10 = .ok (.aload_n 0, 1) := by decide +kernel
theorem d_Ar_fill_11 : decode b_Ar_fill 11 = .ok (.iload_n 2, 1) := by decide +kernel
theorem d_Ar_fill_12 : decode b_Ar_fill 12 = .ok (.iload_n 1, 1) := by decide +kernel
theorem d_Ar_fill_13 : decode b_Ar_fill 13 = .ok (.iastore, 1) := by decide +kernel
theorem d_Ar_fill_14 : decode b_Ar_fill 14 = .ok (.iinc 2 1, 3) := by decide +kernel
theorem d_Ar_fill_17 : decode b_Ar_fill 17 = .ok (.goto (-12), 3) := by decide +kernel
theorem d_Ar_fill_20 : decode b_Ar_fill 20 = .ok (.return_, 1) := by decide +kernel
theorem d_Sl_clear_0 : decode b_Sl_clear 0 = .ok (.aload_n 0, 1) := by decide +kernel
theorem d_Sl_clear_1 : decode b_Sl_clear 1 = .ok (.getfield 16, 3) := by decide +kernel
theorem d_Sl_clear_4 : decode b_Sl_clear 4 = .ok (.iconst 0, 1) := by decide +kernel
theorem d_Sl_clear_5 : decode b_Sl_clear 5 = .ok (.invokestatic 22, 3) := by decide +kernel
theorem d_Sl_clear_8 : decode b_Sl_clear 8 = .ok (.aload_n 0, 1) := by decide +kernel
theorem d_Sl_clear_9 : decode b_Sl_clear 9 = .ok (.iconst 0, 1) := by decide +kernel
theorem d_Sl_clear_10 : decode b_Sl_clear 10 = .ok (.putfield 28, 3) := by decide +kernel
theorem d_Sl_clear_13 : decode b_Sl_clear 13 = .ok (.return_, 1) := by decide +kernel
theorem d_Sl_addByte_0 : decode b_Sl_addByte 0 = .ok (.aload_n 0, 1) := by decide +kernel
theorem d_Sl_addByte_1 : decode b_Sl_addByte 1 = .ok (.getfield 28, 3) := by decide +kernel
theorem d_Sl_addByte_4 : decode b_Sl_addByte 4 = .ok (.bipush 120, 2) := by decide +kernel
theorem d_Sl_addByte_6 : decode b_Sl_addByte 6 = .ok (.if_icmp .ge 41, 3) := by decide +kernel
theorem d_Sl_addByte_9 : decode b_Sl_addByte 9 = .ok (.aload_n 0, 1) := by decide +kernel
theorem d_Sl_addByte_10 : decode b_Sl_addByte 10 = .ok (.getfield 16, 3) := by decide +kernel
theorem d_Sl_addByte_13 : decode b_Sl_addByte 13 = .ok (.aload_n 0, 1) := by decide +kernel
theorem d_Sl_addByte_14 : decode b_Sl_addByte 14 = .ok (.getfield 28, 3) := by decide +kernel
theorem d_Sl_addByte_17 : decode b_Sl_addByte 17 = .ok (.iconst 4, 1) := by decide +kernel
theorem d_Sl_addByte_18 : decode b_Sl_addByte 18 = .ok (.idiv, 1) := by decide +kernel
theorem d_Sl_addByte_19 : decode b_Sl_addByte 19 = .ok (.dup2, 1) := by decide +kernel
theorem d_Sl_addByte_20 : decode b_Sl_addByte 20 = .ok (.iaload, 1) := by decide +kernel
theorem d_Sl_addByte_21 : decode b_Sl_addByte 21 = .ok (.iload_n 1, 1) := by decide +kernel
theorem d_Sl_addByte_22 : decode b_Sl_addByte 22 = .ok (.bipush 24, 2) := by decide +kernel
theorem d_Sl_addByte_24 : decode b_Sl_addByte 24 = .ok (.bipush 8, 2) := by decide +kernel
theorem d_Sl_addByte_26 : decode b_Sl_addByte 26 = .ok (.aload_n 0, 1) := by decide +kernel
theorem d_Sl_addByte_27 : decode b_Sl_addByte 27 = .ok (.getfield 28, 3) := by decide +kernel
theorem d_Sl_addByte_30 : decode b_Sl_addByte 30 = .ok (.iconst 4, 1) := by decide +kernel
theorem d_Sl_addByte_31 : decode b_Sl_addByte 31 = .ok (.irem, 1) := by decide +kernel
theorem d_Sl_addByte_32 : decode b_Sl_addByte 32 = .ok (.imul, 1) := by decide +kernel
theorem d_Sl_addByte_33 : decode b_Sl_addByte 33 = .ok (.isub, 1) := by decide +kernel
theorem d_Sl_addByte_34 : decode b_Sl_addByte 34 = .ok (.ishl, 1) := by decide +kernel
theorem d_Sl_addByte_35 : decode b_Sl_addByte 35 = .ok (.ior, 1) := by decide +kernel
theorem d_Sl_addByte_36 : decode b_Sl_addByte 36 = .ok (.iastore, 1) := by decide +kernel
theorem d_Sl_addByte_37 : decode b_Sl_addByte 37 = .ok (.aload_n 0, 1) := by decide +kernel
theorem d_Sl_addByte_38 : decode b_Sl_addByte 38 = .ok (.dup, 1) := by decide +kernel
theorem d_Sl_addByte_39 : decode b_Sl_addByte 39 = .ok (.getfield 28, 3) := by decide +kernel
theorem d_Sl_addByte_42 : decode b_Sl_addByte 42 = .ok (.iconst 1, 1) := by decide +kernel
theorem d_Sl_addByte_43 : decode b_Sl_addByte 43 = .ok (.iadd, 1) := by decide +kernel
theorem d_Sl_addByte_44 : decode b_Sl_addByte 44 = .ok (.putfield 28, 3) := by decide +kernel
theorem d_Sl_addByte_47 : decode b_Sl_addByte 47 = .ok (.return_, 1) := by decide +kernel
theorem d_Sl_spreadBlock_0 : decode b_Sl_spreadBlock 0 = .ok (.aload_n 0, 1) := by decide +kernel
theorem d_Sl_spreadBlock_1 : decode b_Sl_spreadBlock 1 = .ok (.getfield 16, 3) := by decide +kernel
theorem d_Sl_spreadBlock_4 : decode b_Sl_spreadBlock 4 = .ok (.iload_n 1, 1) := by decide +kernel
theorem d_Sl_spreadBlock_5 : decode b_Sl_spreadBlock 5 = .ok (.aload_n 0, 1) := by decide +kernel
theorem d_Sl_spreadBlock_6 : decode b_Sl_spreadBlock 6 = .ok (.getfield 19, 3) := by decide +kernel
theorem d_Sl_spreadBlock_9 : decode b_Sl_spreadBlock 9 = .ok (.iconst 0, 1) := by decide +kernel
theorem d_Sl_spreadBlock_10 : decode b_Sl_spreadBlock 10 = .ok (.bipush 16, 2) := by decide +kernel
theorem d_Sl_spreadBlock_12 : decode b_Sl_spreadBlock 12 = .ok (.invokestatic 39, 3) := by decide +kernel
theorem d_Sl_spreadBlock_15 : decode b_Sl_spreadBlock 15 = .ok (.bipush 16, 2) := by decide +kernel
theorem d_Sl_spreadBlock_17 : decode b_Sl_spreadBlock 17 = .ok (.istore_n 2, 1) := by decide +kernel
theorem d_Sl_spreadBlock_18 : decode b_Sl_spreadBlock 18 = .ok (.iload_n 2, 1) := by decide +kernel
theorem d_Sl_spreadBlock_19 : decode b_Sl_spreadBlock 19 = .ok (.bipush 64, 2) := by decide +kernel
theorem d_Sl_spreadBlock_21 : decode b_Sl_spreadBlock 21 = .ok (.if_icmp .ge 116, 3) := by decide +kernel
theorem d_Sl_spreadBlock_24 : decode b_Sl_spreadBlock 24 = .ok (.aload_n 0, 1) := by decide +kernel
theorem d_Sl_spreadBlock_25 : decode b_Sl_spreadBlock 25 = .ok (.getfield 19, 3) := by decide +kernel
theorem d_Sl_spreadBlock_28 : decode b_Sl_spreadBlock 28 = .ok (.iload_n 2, 1) := by decide +kernel
theorem d_Sl_spreadBlock_29 : decode b_Sl_spreadBlock 29 = .ok (.bipush 15, 2) := by decide +kernel
theorem d_Sl_spreadBlock_31 : decode b_Sl_spreadBlock 31 = .ok (.isub, 1) := by decide +kernel
theorem d_Sl_spreadBlock_32 : decode b_Sl_spreadBlock 32 = .ok (.iaload, 1) := by decide +kernel
theorem d_Sl_spreadBlock_33 : decode b_Sl_spreadBlock 33 = .ok (.istore_n 3, 1) := by decide +kernel
theorem d_Sl_spreadBlock_34 : decode b_Sl_spreadBlock 34 = .ok (.aload_n 0, 1) := by decide +kernel
theorem d_Sl_spreadBlock_35 : decode b_Sl_spreadBlock 35 = .ok (.getfield 19, 3) := by decide +kernel
theorem d_Sl_spreadBlock_38 : decode b_Sl_spreadBlock 38 = .ok (.iload_n 2, 1) := by decide +kernel
theorem d_Sl_spreadBlock_39 : decode b_Sl_spreadBlock 39 = .ok (.iconst 2, 1) := by decide +kernel
theorem d_Sl_spreadBlock_40 : decode b_Sl_spreadBlock 40 = .ok (.isub, 1) := by decide +kernel
theorem d_Sl_spreadBlock_41 : decode b_Sl_spreadBlock 41 = .ok (.iaload, 1) := by decide +kernel
theorem d_Sl_spreadBlock_42 : decode b_Sl_spreadBlock 42 = .ok (.istore 4, 2) := by decide +kernel
theorem d_Sl_spreadBlock_44 : decode b_Sl_spreadBlock 44 = .ok (.iload_n 3, 1) := by decide +kernel
theorem d_Sl_spreadBlock_45 : decode b_Sl_spreadBlock 45 = .ok (.bipush 7, 2) := by decide +kernel
theorem d_Sl_spreadBlock_47 : decode b_Sl_spreadBlock 47 = .ok (.iushr, 1) := by decide +kernel
theorem d_Sl_spreadBlock_48 : decode b_Sl_spreadBlock 48 = .ok (.iload_n 3, 1) := by decide +kernel
theorem d_Sl_spreadBlock_49 : decode b_Sl_spreadBlock 49 = .ok (.bipush 25, 2) := by decide +kernel
theorem d_Sl_spreadBlock_51 : decode b_Sl_spreadBlock 51 = .ok (.ishl, 1) := by decide +kernel
theorem d_Sl_spreadBlock_52 : decode b_Sl_spreadBlock 52 = .ok (.ior, 1) := by decide +kernel
theorem d_Sl_spreadBlock_53 : decode b_Sl_spreadBlock 53 = .ok (.iload_n 3, 1) := by decide +kernel
theorem d_Sl_spreadBlock_54 : decode b_Sl_spreadBlock 54 = .ok (.bipush 18, 2) := by decide +kernel
theorem d_Sl_spreadBlock_56 : decode b_Sl_spreadBlock 56 = .ok (.iushr, 1) := by decide +kernel
theorem d_Sl_spreadBlock_57 : decode b_Sl_spreadBlock 57 = .ok (.iload_n 3, 1) := by decide +kernel
theorem d_Sl_spreadBlock_58 : decode b_Sl_spreadBlock 58 = .ok (.bipush 14, 2) := by decide +kernel
theorem d_Sl_spreadBlock_60 : decode b_Sl_spreadBlock 60 = .ok (.ishl, 1) := by decide +kernel
theorem d_Sl_spreadBlock_61 : decode b_Sl_spreadBlock 61 = .ok (.ior, 1) := by decide +kernel
theorem d_Sl_spreadBlock_62 : decode b_Sl_spreadBlock 62 = .ok (.ixor, 1) := by decide +kernel
theorem d_Sl_spreadBlock_63 : decode b_Sl_spreadBlock 63 = .ok (.iload_n 3, 1) := by decide +kernel
theorem d_Sl_spreadBlock_64 : decode b_Sl_spreadBlock 64 = .ok (.iconst 3, 1) := by decide +kernel
theorem d_Sl_spreadBlock_65 : decode b_Sl_spreadBlock 65 = .ok (.iushr, 1) := by decide +kernel
theorem d_Sl_spreadBlock_66 : decode b_Sl_spreadBlock 66 = .ok (.ixor, 1) := by decide +kernel
theorem d_Sl_spreadBlock_67 : decode b_Sl_spreadBlock 67 = .ok (.istore 5, 2) := by decide +kernel
theorem d_Sl_spreadBlock_69 : decode b_Sl_spreadBlock 69 = .ok (.iload 4, 2) := by decide +kernel
theorem d_Sl_spreadBlock_71 : decode b_Sl_spreadBlock 71 = .ok (.bipush 17, 2) := by decide +kernel
theorem d_Sl_spreadBlock_73 : decode b_Sl_spreadBlock 73 = .ok (.iushr, 1) := by decide +kernel
theorem d_Sl_spreadBlock_74 : decode b_Sl_spreadBlock 74 = .ok (.iload 4, 2) := by decide +kernel
theorem d_Sl_spreadBlock_76 : decode b_Sl_spreadBlock 76 = .ok (.bipush 15, 2) := by decide +kernel
theorem d_Sl_spreadBlock_78 : decode b_Sl_spreadBlock 78 = .ok (.ishl, 1) := by decide +kernel
theorem d_Sl_spreadBlock_79 : decode b_Sl_spreadBlock 79 = .ok (.ior, 1) := by decide +kernel
theorem d_Sl_spreadBlock_80 : decode b_Sl_spreadBlock 80 = .ok (.iload 4, 2) := by decide +kernel
theorem d_Sl_spreadBlock_82 : decode b_Sl_spreadBlock 82 = .ok (.bipush 19, 2) := by decide +kernel
theorem d_Sl_spreadBlock_84 : decode b_Sl_spreadBlock 84 = .ok (.iushr, 1) := by decide +kernel
theorem d_Sl_spreadBlock_85 : decode b_Sl_spreadBlock 85 = .ok (.iload 4, 2) := by decide +kernel
theorem d_Sl_spreadBlock_87 : decode b_Sl_spreadBlock 87 = .ok (.bipush 13, 2) := by decide +kernel
theorem d_Sl_spreadBlock_89 : decode b_Sl_spreadBlock 89 = .ok (.ishl, 1) := by decide +kernel
theorem d_Sl_spreadBlock_90 : decode b_Sl_spreadBlock 90 = .ok (.ior, 1) := by decide +kernel
theorem d_Sl_spreadBlock_91 : decode b_Sl_spreadBlock 91 = .ok (.ixor, 1) := by decide +kernel
theorem d_Sl_spreadBlock_92 : decode b_Sl_spreadBlock 92 = .ok (.iload 4, 2) := by decide +kernel
theorem d_Sl_spreadBlock_94 : decode b_Sl_spreadBlock 94 = .ok (.bipush 10, 2) := by decide +kernel
theorem d_Sl_spreadBlock_96 : decode b_Sl_spreadBlock 96 = .ok (.iushr, 1) := by decide +kernel
theorem d_Sl_spreadBlock_97 : decode b_Sl_spreadBlock 97 = .ok (.ixor, 1) := by decide +kernel
theorem d_Sl_spreadBlock_98 : decode b_Sl_spreadBlock 98 = .ok (.istore 6, 2) := by decide +kernel
theorem d_Sl_spreadBlock_100 : decode b_Sl_spreadBlock 100 = .ok (.aload_n 0, 1) := by decide +kernel
theorem d_Sl_spreadBlock_101 : decode b_Sl_spreadBlock 101 = .ok (.getfield 19, 3) := by decide +kernel
theorem d_Sl_spreadBlock_104 : decode b_Sl_spreadBlock 104 = .ok (.iload_n 2, 1) := by decide +kernel
theorem d_Sl_spreadBlock_105 : decode b_Sl_spreadBlock 105 = .ok (.aload_n 0, 1) := by decide +kernel
theorem d_Sl_spreadBlock_106 : decode b_Sl_spreadBlock 106 = .ok (.getfield 19, 3) := by decide +kernel
theorem d_Sl_spreadBlock_109 : decode b_Sl_spreadBlock 109 = .ok (.iload_n 2, 1) := by decide +kernel
theorem d_Sl_spreadBlock_110 : decode b_Sl_spreadBlock 110 = .ok (.bipush 16, 2) := by decide +kernel
theorem d_Sl_spreadBlock_112 : decode b_Sl_spreadBlock 112 = .ok (.isub, 1) := by decide +kernel
theorem d_Sl_spreadBlock_113 : decode b_Sl_spreadBlock 113 = .ok (.iaload, 1) := by decide +kernel
theorem d_Sl_spreadBlock_114 : decode b_Sl_spreadBlock 114 = .ok (.aload_n 0, 1) := by decide +kernel
theorem d_Sl_spreadBlock_115 : decode b_Sl_spreadBlock 115 = .ok (.getfield 19, 3) := by decide +kernel
theorem d_Sl_spreadBlock_118 : decode b_Sl_spreadBlock 118 = .ok (.iload_n 2, 1) := by decide +kernel
theorem d_Sl_spreadBlock_119 : decode b_Sl_spreadBlock 119 = .ok (.bipush 7, 2) := by decide +kernel
theorem d_Sl_spreadBlock_121 : decode b_Sl_spreadBlock 121 = .ok (.isub, 1) := by decide +kernel
theorem d_Sl_spreadBlock_122 : decode b_Sl_spreadBlock 122 = .ok (.iaload, 1) := by decide +kernel
theorem d_Sl_spreadBlock_123 : decode b_Sl_spreadBlock 123 = .ok (.iadd, 1) := by decide +kernel
theorem d_Sl_spreadBlock_124 : decode b_Sl_spreadBlock 124 = .ok (.iload 5, 2) := by decide +kernel
theorem d_Sl_spreadBlock_126 : decode b_Sl_spreadBlock 126 = .ok (.iadd, 1) := by decide +kernel
theorem d_Sl_spreadBlock_127 : decode b_Sl_spreadBlock 127 = .ok (.iload 6, 2) := by decide +kernel
theorem d_Sl_spreadBlock_129 : decode b_Sl_spreadBlock 129 = .ok (.iadd, 1) := by decide +kernel
theorem d_Sl_spreadBlock_130 : decode b_Sl_spreadBlock 130 = .ok (.iastore, 1) := by decide +kernel
theorem d_Sl_spreadBlock_131 : decode b_Sl_spreadBlock 131 = .ok (.iinc 2 1, 3) := by decide +kernel
theorem d_Sl_spreadBlock_134 : decode b_Sl_spreadBlock 134 = .ok (.goto (-116), 3) := by decide +kernel
theorem d_Sl_spreadBlock_137 : decode b_Sl_spreadBlock 137 = .ok (.return_, 1) := by decide +kernel
theorem d_Sl_mixBlock_0 : decode b_Sl_mixBlock 0 = .ok (.aload_n 0, 1) := by decide +kernel
theorem d_Sl_mixBlock_1 : decode b_Sl_mixBlock 1 = .ok (.getfield 9, 3) := by decide +kernel
theorem d_Sl_mixBlock_4 : decode b_Sl_mixBlock 4 = .ok (.iconst 0, 1) := by decide +kernel
theorem d_Sl_mixBlock_5 : decode b_Sl_mixBlock 5 = .ok (.iaload, 1) := by decide +kernel
theorem d_Sl_mixBlock_6 : decode b_Sl_mixBlock 6 = .ok (.istore_n 1, 1) := by decide +kernel
theorem d_Sl_mixBlock_7 : decode b_Sl_mixBlock 7 = .ok (.aload_n 0, 1) := by decide +kernel
theorem d_Sl_mixBlock_8 : decode b_Sl_mixBlock 8 = .ok (.getfield 9, 3) := by decide +kernel
theorem d_Sl_mixBlock_11 : decode b_Sl_mixBlock 11 = .ok (.iconst 1, 1) := by decide +kernel
theorem d_Sl_mixBlock_12 : decode b_Sl_mixBlock 12 = .ok (.iaload, 1) := by decide +kernel
theorem d_Sl_mixBlock_13 : decode b_Sl_mixBlock 13 = .ok (.istore_n 2, 1) := by decide +kernel
theorem d_Sl_mixBlock_14 : decode b_Sl_mixBlock 14 = .ok (.aload_n 0, 1) := by decide +kernel
theorem d_Sl_mixBlock_15 : decode b_Sl_mixBlock 15 = .ok (.getfield 9, 3) := by decide +kernel
theorem d_Sl_mixBlock_18 : decode b_Sl_mixBlock 18 = .ok (.iconst 2, 1) := by decide +kernel
theorem d_Sl_mixBlock_19 : decode b_Sl_mixBlock 19 = .ok (.iaload, 1) := by decide +kernel
theorem d_Sl_mixBlock_20 : decode b_Sl_mixBlock 20 = .ok (.istore_n 3, 1) := by decide +kernel
theorem d_Sl_mixBlock_21 : decode b_Sl_mixBlock 21 = .ok (.aload_n 0, 1) := by decide +kernel
theorem d_Sl_mixBlock_22 : decode b_Sl_mixBlock 22 = .ok (.getfield 9, 3) := by decide +kernel
theorem d_Sl_mixBlock_25 : decode b_Sl_mixBlock 25 = .ok (.iconst 3, 1) := by decide +kernel
theorem d_Sl_mixBlock_26 : decode b_Sl_mixBlock 26 = .ok (.iaload, 1) := by decide +kernel
theorem d_Sl_mixBlock_27 : decode b_Sl_mixBlock 27 = .ok (.istore 4, 2) := by decide +kernel
theorem d_Sl_mixBlock_29 : decode b_Sl_mixBlock 29 = .ok (.aload_n 0, 1) := by decide +kernel
theorem d_Sl_mixBlock_30 : decode b_Sl_mixBlock 30 = .ok (.getfield 9, 3) := by decide +kernel
theorem d_Sl_mixBlock_33 : decode b_Sl_mixBlock 33 = .ok (.iconst 4, 1) := by decide +kernel
theorem d_Sl_mixBlock_34 : decode b_Sl_mixBlock 34 = .ok (.iaload, 1) := by decide +kernel
theorem d_Sl_mixBlock_35 : decode b_Sl_mixBlock 35 = .ok (.istore 5, 2) := by decide +kernel
theorem d_Sl_mixBlock_37 : decode b_Sl_mixBlock 37 = .ok (.aload_n 0, 1) := by decide +kernel
theorem d_Sl_mixBlock_38 : decode b_Sl_mixBlock 38 = .ok (.getfield 9, 3) := by decide +kernel
theorem d_Sl_mixBlock_41 : decode b_Sl_mixBlock 41 = .ok (.iconst 5, 1) := by decide +kernel
theorem d_Sl_mixBlock_42 : decode b_Sl_mixBlock 42 = .ok (.iaload, 1) := by decide +kernel
theorem d_Sl_mixBlock_43 : decode b_Sl_mixBlock 43 = .ok (.istore 6, 2) := by decide +kernel
theorem d_Sl_mixBlock_45 : decode b_Sl_mixBlock 45 = .ok (.aload_n 0, 1) := by decide +kernel
theorem d_Sl_mixBlock_46 : decode b_Sl_mixBlock 46 = .ok (.getfield 9, 3) := by decide +kernel
theorem d_Sl_mixBlock_49 : decode b_Sl_mixBlock 49 = .ok (.bipush 6, 2) := by decide +kernel
theorem d_Sl_mixBlock_51 : decode b_Sl_mixBlock 51 = .ok (.iaload, 1) := by decide +kernel
theorem d_Sl_mixBlock_52 : decode b_Sl_mixBlock 52 = .ok (.istore 7, 2) := by decide +kernel
theorem d_Sl_mixBlock_54 : decode b_Sl_mixBlock 54 = .ok (.aload_n 0, 1) := by decide +kernel
theorem d_Sl_mixBlock_55 : decode b_Sl_mixBlock 55 = .ok (.getfield 9, 3) := by decide +kernel
theorem d_Sl_mixBlock_58 : decode b_Sl_mixBlock 58 = .ok (.bipush 7, 2) := by decide +kernel
theorem d_Sl_mixBlock_60 : decode b_Sl_mixBlock 60 = .ok (.iaload, 1) := by decide +kernel
theorem d_Sl_mixBlock_61 : decode b_Sl_mixBlock 61 = .ok (.istore 8, 2) := by decide +kernel
theorem d_Sl_mixBlock_63 : decode b_Sl_mixBlock 63 = .ok (.iconst 0, 1) := by decide +kernel
theorem d_Sl_mixBlock_64 : decode b_Sl_mixBlock 64 = .ok (.istore 9, 2) := by decide +kernel
theorem d_Sl_mixBlock_66 : decode b_Sl_mixBlock 66 = .ok (.iload 9, 2) := by decide +kernel
theorem d_Sl_mixBlock_68 : decode b_Sl_mixBlock 68 = .ok (.bipush 64, 2) := by decide +kernel
theorem d_Sl_mixBlock_70 : decode b_Sl_mixBlock 70 = .ok (.if_icmp .ge 152, 3) := by decide +kernel
theorem d_Sl_mixBlock_73 : decode b_Sl_mixBlock 73 = .ok (.iload 8, 2) := by decide +kernel
theorem d_Sl_mixBlock_75 : decode b_Sl_mixBlock 75 = .ok (.iload 5, 2) := by decide +kernel
theorem d_Sl_mixBlock_77 : decode b_Sl_mixBlock 77 = .ok (.bipush 6, 2) := by decide +kernel
theorem d_Sl_mixBlock_79 : decode b_Sl_mixBlock 79 = .ok (.iushr, 1) := by decide +kernel
theorem d_Sl_mixBlock_80 : decode b_Sl_mixBlock 80 = .ok (.iload 5, 2) := by decide +kernel
theorem d_Sl_mixBlock_82 : decode b_Sl_mixBlock 82 = .ok (.bipush 26, 2) := by decide +kernel
theorem d_Sl_mixBlock_84 : decode b_Sl_mixBlock 84 = .ok (.ishl, 1) := by decide +kernel
theorem d_Sl_mixBlock_85 : decode b_Sl_mixBlock 85 = .ok (.ior, 1) := by decide +kernel
theorem d_Sl_mixBlock_86 : decode b_Sl_mixBlock 86 = .ok (.iload 5, 2) := by decide +kernel
theorem d_Sl_mixBlock_88 : decode b_Sl_mixBlock 88 = .ok (.bipush 11, 2) := by decide +kernel
theorem d_Sl_mixBlock_90 : decode b_Sl_mixBlock 90 = .ok (.iushr, 1) := by decide +kernel
theorem d_Sl_mixBlock_91 : decode b_Sl_mixBlock 91 = .ok (.iload 5, 2) := by decide +kernel
theorem d_Sl_mixBlock_93 : decode b_Sl_mixBlock 93 = .ok (.bipush 21, 2) := by decide +kernel
theorem d_Sl_mixBlock_95 : decode b_Sl_mixBlock 95 = .ok (.ishl, 1) := by decide +kernel
theorem d_Sl_mixBlock_96 : decode b_Sl_mixBlock 96 = .ok (.ior, 1) := by decide +kernel
theorem d_Sl_mixBlock_97 : decode b_Sl_mixBlock 97 = .ok (.ixor, 1) := by decide +kernel
theorem d_Sl_mixBlock_98 : decode b_Sl_mixBlock 98 = .ok (.iload 5, 2) := by decide +kernel
theorem d_Sl_mixBlock_100 : decode b_Sl_mixBlock 100 = .ok (.bipush 25, 2) := by decide +kernel
theorem d_Sl_mixBlock_102 : decode b_Sl_mixBlock 102 = .ok (.iushr, 1) := by decide +kernel
theorem d_Sl_mixBlock_103 : decode b_Sl_mixBlock 103 = .ok (.iload 5, 2) := by decide +kernel
theorem d_Sl_mixBlock_105 : decode b_Sl_mixBlock 105 = .ok (.bipush 7, 2) := by decide +kernel
theorem d_Sl_mixBlock_107 : decode b_Sl_mixBlock 107 = .ok (.ishl, 1) := by decide +kernel
theorem d_Sl_mixBlock_108 : decode b_Sl_mixBlock 108 = .ok (.ior, 1) := by decide +kernel
theorem d_Sl_mixBlock_109 : decode b_Sl_mixBlock 109 = .ok (.ixor, 1) := by decide +kernel
theorem d_Sl_mixBlock_110 : decode b_Sl_mixBlock 110 = .ok (.iadd, 1) := by decide +kernel
theorem d_Sl_mixBlock_111 : decode b_Sl_mixBlock 111 = .ok (.iload 5, 2) := by decide +kernel
theorem d_Sl_mixBlock_113 : decode b_Sl_mixBlock 113 = .ok (.iload 6, 2) := by decide +kernel
theorem d_Sl_mixBlock_115 : decode b_Sl_mixBlock 115 = .ok (.iand, 1) := by decide +kernel
theorem d_Sl_mixBlock_116 : decode b_Sl_mixBlock 116 = .ok (.iload 5, 2) := by decide +kernel
theorem d_Sl_mixBlock_118 : decode b_Sl_mixBlock 118 = .ok (.iconst (-1), 1) := by decide +kernel
theorem d_Sl_mixBlock_119 : decode b_Sl_mixBlock 119 = .ok (.ixor, 1) := by decide +kernel
theorem d_Sl_mixBlock_120 : decode b_Sl_mixBlock 120 = .ok (.iload 7, 2) := by decide +kernel
theorem d_Sl_mixBlock_122 : decode b_Sl_mixBlock 122 = .ok (.iand, 1) := by decide +kernel
theorem d_Sl_mixBlock_123 : decode b_Sl_mixBlock 123 = .ok (.ior, 1) := by decide +kernel
theorem d_Sl_mixBlock_124 : decode b_Sl_mixBlock 124 = .ok (.iadd, 1) := by decide +kernel
theorem d_Sl_mixBlock_125 : decode b_Sl_mixBlock 125 = .ok (.getstatic 63, 3) := by decide +kernel
theorem d_Sl_mixBlock_128 : decode b_Sl_mixBlock 128 = .ok (.iload 9, 2) := by decide +kernel
theorem d_Sl_mixBlock_130 : decode b_Sl_mixBlock 130 = .ok (.iaload, 1) := by decide +kernel
theorem d_Sl_mixBlock_131 : decode b_Sl_mixBlock 131 = .ok (.iadd, 1) := by decide +kernel
theorem d_Sl_mixBlock_132 : decode b_Sl_mixBlock 132 = .ok (.aload_n 0, 1) := by decide +kernel
theorem d_Sl_mixBlock_133 : decode b_Sl_mixBlock 133 = .ok (.getfield 19, 3) := by decide +kernel
theorem d_Sl_mixBlock_136 : decode b_Sl_mixBlock 136 = .ok (.iload 9, 2) := by decide +kernel
theorem d_Sl_mixBlock_138 : decode b_Sl_mixBlock 138 = .ok (.iaload, 1) := by decide +kernel
theorem d_Sl_mixBlock_139 : decode b_Sl_mixBlock 139 = .ok (.iadd, 1) := by decide +kernel
theorem d_Sl_mixBlock_140 : decode b_Sl_mixBlock 140 = .ok (.istore 10, 2) := by decide +kernel
theorem d_Sl_mixBlock_142 : decode b_Sl_mixBlock 142 = .ok (.iload_n 1, 1) := by decide +kernel
theorem d_Sl_mixBlock_143 : decode b_Sl_mixBlock 143 = .ok (.iconst 2, 1) := by decide +kernel
theorem d_Sl_mixBlock_144 : decode b_Sl_mixBlock 144 = .ok (.iushr, 1) := by decide +kernel
theorem d_Sl_mixBlock_145 : decode b_Sl_mixBlock 145 = .ok (.iload_n 1, 1) := by decide +kernel
theorem d_Sl_mixBlock_146 : decode b_Sl_mixBlock 146 = .ok (.bipush 30, 2) := by decide +kernel
theorem d_Sl_mixBlock_148 : decode b_Sl_mixBlock 148 = .ok (.ishl, 1) := by decide +kernel
theorem d_Sl_mixBlock_149 : decode b_Sl_mixBlock 149 = .ok (.ior, 1) := by decide +kernel
theorem d_Sl_mixBlock_150 : decode b_Sl_mixBlock 150 = .ok (.iload_n 1, 1) := by decide +kernel
theorem d_Sl_mixBlock_151 : decode b_Sl_mixBlock 151 = .ok (.bipush 13, 2) := by decide +kernel
theorem d_Sl_mixBlock_153 : decode b_Sl_mixBlock 153 = .ok (.iushr, 1) := by decide +kernel
theorem d_Sl_mixBlock_154 : decode b_Sl_mixBlock 154 = .ok (.iload_n 1, 1) := by decide +kernel
theorem d_Sl_mixBlock_155 : decode b_Sl_mixBlock 155 = .ok (.bipush 19, 2) := by decide +kernel
theorem d_Sl_mixBlock_157 : decode b_Sl_mixBlock 157 = .ok (.ishl, 1) := by decide +kernel
theorem d_Sl_mixBlock_158 : decode b_Sl_mixBlock 158 = .ok (.ior, 1) := by decide +kernel
theorem d_Sl_mixBlock_159 : decode b_Sl_mixBlock 159 = .ok (.ixor, 1) := by decide +kernel
theorem d_Sl_mixBlock_160 : decode b_Sl_mixBlock 160 = .ok (.iload_n 1, 1) := by decide +kernel
theorem d_Sl_mixBlock_161 : decode b_Sl_mixBlock 161 = .ok (.bipush 22, 2) := by decide +kernel
theorem d_Sl_mixBlock_163 : decode b_Sl_mixBlock 163 = .ok (.iushr, 1) := by decide +kernel
theorem d_Sl_mixBlock_164 : decode b_Sl_mixBlock 164 = .ok (.iload_n 1, 1) := by decide +kernel
theorem d_Sl_mixBlock_165 : decode b_Sl_mixBlock 165 = .ok (.bipush 10, 2) := by decide +kernel
theorem d_Sl_mixBlock_167 : decode b_Sl_mixBlock 167 = .ok (.ishl, 1) := by decide +kernel
theorem d_Sl_mixBlock_168 : decode b_Sl_mixBlock 168 = .ok (.ior, 1) := by decide +kernel
theorem d_Sl_mixBlock_169 : decode b_Sl_mixBlock 169 = .ok (.ixor, 1) := by decide +kernel
theorem d_Sl_mixBlock_170 : decode b_Sl_mixBlock 170 = .ok (.iload_n 1, 1) := by decide +kernel
theorem d_Sl_mixBlock_171 : decode b_Sl_mixBlock 171 = .ok (.iload_n 2, 1) := by decide +kernel
theorem d_Sl_mixBlock_172 : decode b_Sl_mixBlock 172 = .ok (.iand, 1) := by decide +kernel
theorem d_Sl_mixBlock_173 : decode b_Sl_mixBlock 173 = .ok (.iload_n 1, 1) := by decide +kernel
theorem d_Sl_mixBlock_174 : decode b_Sl_mixBlock 174 = .ok (.iload_n 3, 1) := by decide +kernel
theorem d_Sl_mixBlock_175 : decode b_Sl_mixBlock 175 = .ok (.iand, 1) := by decide +kernel
theorem d_Sl_mixBlock_176 : decode b_Sl_mixBlock 176 = .ok (.ixor, 1) := by decide +kernel
theorem d_Sl_mixBlock_177 : decode b_Sl_mixBlock 177 = .ok (.iload_n 2, 1) := by decide +kernel
theorem d_Sl_mixBlock_178 : decode b_Sl_mixBlock 178 = .ok (.iload_n 3, 1) := by decide +kernel
theorem d_Sl_mixBlock_179 : decode b_Sl_mixBlock 179 = .ok (.iand, 1) := by decide +kernel
theorem d_Sl_mixBlock_180 : decode b_Sl_mixBlock 180 = .ok (.ixor, 1) := by decide +kernel
theorem d_Sl_mixBlock_181 : decode b_Sl_mixBlock 181 = .ok (.iadd, 1) := by decide +kernel
theorem d_Sl_mixBlock_182 : decode b_Sl_mixBlock 182 = .ok (.istore 11, 2) := by decide +kernel
theorem d_Sl_mixBlock_184 : decode b_Sl_mixBlock 184 = .ok (.iload 7, 2) := by decide +kernel
theorem d_Sl_mixBlock_186 : decode b_Sl_mixBlock 186 = .ok (.istore 8, 2) := by decide +kernel
theorem d_Sl_mixBlock_188 : decode b_Sl_mixBlock 188 = .ok (.iload 6, 2) := by decide +kernel
theorem d_Sl_mixBlock_190 : decode b_Sl_mixBlock 190 = .ok (.istore 7, 2) := by decide +kernel
theorem d_Sl_mixBlock_192 : decode b_Sl_mixBlock 192 = .ok (.iload 5, 2) := by decide +kernel
theorem d_Sl_mixBlock_194 : decode b_Sl_mixBlock 194 = .ok (.istore 6, 2) := by decide +kernel
theorem d_Sl_mixBlock_196 : decode b_Sl_mixBlock 196 = .ok (.iload 4, 2) := by decide +kernel
theorem d_Sl_mixBlock_198 : decode b_Sl_mixBlock 198 = .ok (.iload 10, 2) := by decide +kernel
theorem d_Sl_mixBlock_200 : decode b_Sl_mixBlock 200 = .ok (.iadd, 1) := by decide +kernel
theorem d_Sl_mixBlock_201 : decode b_Sl_mixBlock 201 = .ok (.istore 5, 2) := by decide +kernel
theorem d_Sl_mixBlock_203 : decode b_Sl_mixBlock 203 = .ok (.iload_n 3, 1) := by decide +kernel
theorem d_Sl_mixBlock_204 : decode b_Sl_mixBlock 204 = .ok (.istore 4, 2) := by decide +kernel
theorem d_Sl_mixBlock_206 : decode b_Sl_mixBlock 206 = .ok (.iload_n 2, 1) := by decide +kernel
theorem d_Sl_mixBlock_207 : decode b_Sl_mixBlock 207 = .ok (.istore_n 3, 1) := by decide +kernel
theorem d_Sl_mixBlock_208 : decode b_Sl_mixBlock 208 = .ok (.iload_n 1, 1) := by decide +kernel
theorem d_Sl_mixBlock_209 : decode b_Sl_mixBlock 209 = .ok (.istore_n 2, 1) := by decide +kernel
theorem d_Sl_mixBlock_210 : decode b_Sl_mixBlock 210 = .ok (.iload 10, 2) := by decide +kernel
theorem d_Sl_mixBlock_212 : decode b_Sl_mixBlock 212 = .ok (.iload 11, 2) := by decide +kernel
theorem d_Sl_mixBlock_214 : decode b_Sl_mixBlock 214 = .ok (.iadd, 1) := by decide +kernel
theorem d_Sl_mixBlock_215 : decode b_Sl_mixBlock 215 = .ok (.istore_n 1, 1) := by decide +kernel
theorem d_Sl_mixBlock_216 : decode b_Sl_mixBlock 216 = .ok (.iinc 9 1, 3) := by decide +kernel
theorem d_Sl_mixBlock_219 : decode b_Sl_mixBlock 219 = .ok (.goto (-153), 3) := by decide +kernel
theorem d_Sl_mixBlock_222 : decode b_Sl_mixBlock 222 = .ok (.aload_n 0, 1) := by decide +kernel
theorem d_Sl_mixBlock_223 : decode b_Sl_mixBlock 223 = .ok (.getfield 9, 3) := by decide +kernel
theorem d_Sl_mixBlock_226 : decode b_Sl_mixBlock 226 = .ok (.iconst 0, 1) := by decide +kernel
theorem d_Sl_mixBlock_227 : decode b_Sl_mixBlock 227 = .ok (.dup2, 1) := by decide +kernel
theorem d_Sl_mixBlock_228 : decode b_Sl_mixBlock 228 = .ok (.iaload, 1) := by decide +kernel
theorem d_Sl_mixBlock_229 : decode b_Sl_mixBlock 229 = .ok (.iload_n 1, 1) := by decide +kernel
theorem d_Sl_mixBlock_230 : decode b_Sl_mixBlock 230 = .ok (.iadd, 1) := by decide +kernel
theorem d_Sl_mixBlock_231 : decode b_Sl_mixBlock 231 = .ok (.iastore, 1) := by decide +kernel
theorem d_Sl_mixBlock_232 : decode b_Sl_mixBlock 232 = .ok (.aload_n 0, 1) := by decide +kernel
theorem d_Sl_mixBlock_233 : decode b_Sl_mixBlock 233 = .ok (.getfield 9, 3) := by decide +kernel
theorem d_Sl_mixBlock_236 : decode b_Sl_mixBlock 236 = .ok (.iconst 1, 1) := by decide +kernel
theorem d_Sl_mixBlock_237 : decode b_Sl_mixBlock 237 = .ok (.dup2, 1) := by decide +kernel
theorem d_Sl_mixBlock_238 : decode b_Sl_mixBlock 238 = .ok (.iaload, 1) := by decide +kernel
theorem d_Sl_mixBlock_239 : decode b_Sl_mixBlock 239 = .ok (.iload_n 2, 1) := by decide +kernel
theorem d_Sl_mixBlock_240 : decode b_Sl_mixBlock 240 = .ok (.iadd, 1) := by decide +kernel
theorem d_Sl_mixBlock_241 : decode b_Sl_mixBlock 241 = .ok (.iastore, 1) := by decide +kernel
theorem d_Sl_mixBlock_242 : decode b_Sl_mixBlock 242 = .ok (.aload_n 0, 1) := by decide +kernel
theorem d_Sl_mixBlock_243 : decode b_Sl_mixBlock 243 = .ok (.getfield 9, 3) := by decide +kernel
theorem d_Sl_mixBlock_246 : decode b_Sl_mixBlock 246 = .ok (.iconst 2, 1) := by decide +kernel
theorem d_Sl_mixBlock_247 : decode b_Sl_mixBlock 247 = .ok (.dup2, 1) := by decide +kernel
theorem d_Sl_mixBlock_248 : decode b_Sl_mixBlock 248 = .ok (.iaload, 1) := by decide +kernel
theorem d_Sl_mixBlock_249 : decode b_Sl_mixBlock 249 = .ok (.iload_n 3, 1) := by decide +kernel
theorem d_Sl_mixBlock_250 : decode b_Sl_mixBlock 250 = .ok (.iadd, 1) := by decide +kernel
theorem d_Sl_mixBlock_251 : decode b_Sl_mixBlock 251 = .ok (.iastore, 1) := by decide +kernel
theorem d_Sl_mixBlock_252 : decode b_Sl_mixBlock 252 = .ok (.aload_n 0, 1) := by decide +kernel
theorem d_Sl_mixBlock_253 : decode b_Sl_mixBlock 253 = .ok (.getfield 9, 3) := by decide +kernel
theorem d_Sl_mixBlock_256 : decode b_Sl_mixBlock 256 = .ok (.iconst 3, 1) := by decide +kernel
theorem d_Sl_mixBlock_257 : decode b_Sl_mixBlock 257 = .ok (.dup2, 1) := by decide +kernel
theorem d_Sl_mixBlock_258 : decode b_Sl_mixBlock 258 = .ok (.iaload, 1) := by decide +kernel
theorem d_Sl_mixBlock_259 : decode b_Sl_mixBlock 259 = .ok (.iload 4, 2) := by decide +kernel
theorem d_Sl_mixBlock_261 : decode b_Sl_mixBlock 261 = .ok (.iadd, 1) := by decide +kernel
theorem d_Sl_mixBlock_262 : decode b_Sl_mixBlock 262 = .ok (.iastore, 1) := by decide +kernel
theorem d_Sl_mixBlock_263 : decode b_Sl_mixBlock 263 = .ok (.aload_n 0, 1) := by decide +kernel
theorem d_Sl_mixBlock_264 : decode b_Sl_mixBlock 264 = .ok (.getfield 9, 3) := by decide +kernel
theorem d_Sl_mixBlock_267 : decode b_Sl_mixBlock 267 = .ok (.iconst 4, 1) := by decide +kernel
theorem d_Sl_mixBlock_268 : decode b_Sl_mixBlock 268 = .ok (.dup2, 1) := by decide +kernel
theorem d_Sl_mixBlock_269 : decode b_Sl_mixBlock 269 = .ok (.iaload, 1) := by decide +kernel
theorem d_Sl_mixBlock_270 : decode b_Sl_mixBlock 270 = .ok (.iload 5, 2) := by decide +kernel
theorem d_Sl_mixBlock_272 : decode b_Sl_mixBlock 272 = .ok (.iadd, 1) := by decide +kernel
theorem d_Sl_mixBlock_273 : decode b_Sl_mixBlock 273 = .ok (.iastore, 1) := by decide +kernel
theorem d_Sl_mixBlock_274 : decode b_Sl_mixBlock 274 = .ok (.aload_n 0, 1) := by decide +kernel
theorem d_Sl_mixBlock_275 : decode b_Sl_mixBlock 275 = .ok (.getfield 9, 3) := by decide +kernel
theorem d_Sl_mixBlock_278 : decode b_Sl_mixBlock 278 = .ok (.iconst 5, 1) := by decide +kernel
theorem d_Sl_mixBlock_279 : decode b_Sl_mixBlock 279 = .ok (.dup2, 1) := by decide +kernel
theorem d_Sl_mixBlock_280 : decode b_Sl_mixBlock 280 = .ok (.iaload, 1) := by decide +kernel
theorem d_Sl_mixBlock_281 : decode b_Sl_mixBlock 281 = .ok (.iload 6, 2) := by decide +kernel
theorem d_Sl_mixBlock_283 : decode b_Sl_mixBlock 283 = .ok (.iadd, 1) := by decide +kernel
theorem d_Sl_mixBlock_284 : decode b_Sl_mixBlock 284 = .ok (.iastore, 1) := by decide +kernel
theorem d_Sl_mixBlock_285 : decode b_Sl_mixBlock 285 = .ok (.aload_n 0, 1) := by decide +kernel
theorem d_Sl_mixBlock_286 : decode b_Sl_mixBlock 286 = .ok (.getfield 9, 3) := by decide +kernel
theorem d_Sl_mixBlock_289 : decode b_Sl_mixBlock 289 = .ok (.bipush 6, 2) := by decide +kernel
theorem d_Sl_mixBlock_291 : decode b_Sl_mixBlock 291 = .ok (.dup2, 1) := by decide +kernel
theorem d_Sl_mixBlock_292 : decode b_Sl_mixBlock 292 = .ok (.iaload, 1) := by decide +kernel
theorem d_Sl_mixBlock_293 : decode b_Sl_mixBlock 293 = .ok (.iload 7, 2) := by decide +kernel
theorem d_Sl_mixBlock_295 : decode b_Sl_mixBlock 295 = .ok (.iadd, 1) := by decide +kernel
theorem d_Sl_mixBlock_296 : decode b_Sl_mixBlock 296 = .ok (.iastore, 1) := by decide +kernel
theorem d_Sl_mixBlock_297 : decode b_Sl_mixBlock 297 = .ok (.aload_n 0, 1) := by decide +kernel
theorem d_Sl_mixBlock_298 : decode b_Sl_mixBlock 298 = .ok (.getfield 9, 3) := by decide +kernel
theorem d_Sl_mixBlock_301 : decode b_Sl_mixBlock 301 = .ok (.bipush 7, 2) := by decide +kernel
theorem d_Sl_mixBlock_303 : decode b_Sl_mixBlock 303 = .ok (.dup2, 1) := by decide +kernel
theorem d_Sl_mixBlock_304 : decode b_Sl_mixBlock 304 = .ok (.iaload, 1) := by decide +kernel
theorem d_Sl_mixBlock_305 : decode b_Sl_mixBlock 305 = .ok (.iload 8, 2) := by decide +kernel
theorem d_Sl_mixBlock_307 : decode b_Sl_mixBlock 307 = .ok (.iadd, 1) := by decide +kernel
theorem d_Sl_mixBlock_308 : decode b_Sl_mixBlock 308 = .ok (.iastore, 1) := by decide +kernel
theorem d_Sl_mixBlock_309 : decode b_Sl_mixBlock 309 = .ok (.return_, 1) := by decide +kernel
theorem d_Sl_startWithKey_0 : decode b_Sl_startWithKey 0 = .ok (.aload_n 0, 1) := by decide +kernel
theorem d_Sl_startWithKey_1 : decode b_Sl_startWithKey 1 = .ok (.invokevirtual 60, 3) := by decide +kernel
theorem d_Sl_startWithKey_4 : decode b_Sl_startWithKey 4 = .ok (.iconst 0, 1) := by decide +kernel
theorem d_Sl_startWithKey_5 : decode b_Sl_startWithKey 5 = .ok (.istore 5, 2) := by decide +kernel
theorem d_Sl_startWithKey_7 : decode b_Sl_startWithKey 7 = .ok (.iload 5, 2) := by decide +kernel
theorem d_Sl_startWithKey_9 : decode b_Sl_startWithKey 9 = .ok (.bipush 16, 2) := by decide +kernel
theorem d_Sl_startWithKey_11 : decode b_Sl_startWithKey 11 = .ok (.if_icmp .ge 35, 3) := by decide +kernel
theorem d_Sl_startWithKey_14 : decode b_Sl_startWithKey 14 = .ok (.aload_n 0, 1) := by decide +kernel
theorem d_Sl_startWithKey_15 : decode b_Sl_startWithKey 15 = .ok (.getfield 16, 3) := by decide +kernel
theorem d_Sl_startWithKey_18 : decode b_Sl_startWithKey 18 = .ok (.iload 5, 2) := by decide +kernel
theorem d_Sl_startWithKey_20 : decode b_Sl_startWithKey 20 = .ok (.iload 5, 2) := by decide +kernel
theorem d_Sl_startWithKey_22 : decode b_Sl_startWithKey 22 = .ok (.iload_n 3, 1) := by decide +kernel
theorem d_Sl_startWithKey_23 : decode b_Sl_startWithKey 23 = .ok (.if_icmp .ge 12, 3) := by decide +kernel
theorem d_Sl_startWithKey_26 : decode b_Sl_startWithKey 26 = .ok (.aload_n 1, 1) := by decide +kernel
theorem d_Sl_startWithKey_27 : decode b_Sl_startWithKey 27 = .ok (.iload_n 2, 1) := by decide +kernel
theorem d_Sl_startWithKey_28 : decode b_Sl_startWithKey 28 = .ok (.iload 5, 2) := by decide +kernel
theorem d_Sl_startWithKey_30 : decode b_Sl_startWithKey 30 = .ok (.iadd, 1) := by decide +kernel
theorem d_Sl_startWithKey_31 : decode b_Sl_startWithKey 31 = .ok (.iaload, 1) := by decide +kernel
theorem d_Sl_startWithKey_32 : decode b_Sl_startWithKey 32 = .ok (.goto 4, 3) := by decide +kernel
theorem d_Sl_startWithKey_35 : decode b_Sl_startWithKey 35 = .ok (.iconst 0, 1) := by decide +kernel
theorem d_Sl_startWithKey_36 : decode b_Sl_startWithKey 36 = .ok (.iload 4, 2) := by decide +kernel
theorem d_Sl_startWithKey_38 : decode b_Sl_startWithKey 38 = .ok (.ixor, 1) := by decide +kernel
theorem d_Sl_startWithKey_39 : decode b_Sl_startWithKey 39 = .ok (.iastore, 1) := by decide +kernel
theorem d_Sl_startWithKey_40 : decode b_Sl_startWithKey 40 = .ok (.iinc 5 1, 3) := by decide +kernel
theorem d_Sl_startWithKey_43 : decode b_Sl_startWithKey 43 = .ok (.goto (-36), 3) := by decide +kernel
theorem d_Sl_startWithKey_46 : decode b_Sl_startWithKey 46 = .ok (.aload_n 0, 1) := by decide +kernel
theorem d_Sl_startWithKey_47 : decode b_Sl_startWithKey 47 = .ok (.bipush 64, 2) := by decide +kernel
theorem d_Sl_startWithKey_49 : decode b_Sl_startWithKey 49 = .ok (.putfield 28, 3) := by decide +kernel
theorem d_Sl_startWithKey_52 : decode b_Sl_startWithKey 52 = .ok (.return_, 1) := by decide +kernel
theorem d_Sl_finish_0 : decode b_Sl_finish 0 = .ok (.bipush 8, 2) := by decide +kernel
theorem d_Sl_finish_2 : decode b_Sl_finish 2 = .ok (.aload_n 0, 1) := by decide +kernel
theorem d_Sl_finish_3 : decode b_Sl_finish 3 = .ok (.getfield 28, 3) := by decide +kernel
theorem d_Sl_finish_6 : decode b_Sl_finish 6 = .ok (.imul, 1) := by decide +kernel
theorem d_Sl_finish_7 : decode b_Sl_finish 7 = .ok (.istore_n 1, 1) := by decide +kernel
theorem d_Sl_finish_8 : decode b_Sl_finish 8 = .ok (.aload_n 0, 1) := by decide +kernel
theorem d_Sl_finish_9 : decode b_Sl_finish 9 = .ok (.sipush 128, 3) := by decide +kernel
theorem d_Sl_finish_12 : decode b_Sl_finish 12 = .ok (.invokevirtual 32, 3) := by decide +kernel
theorem d_Sl_finish_15 : decode b_Sl_finish 15 = .ok (.aload_n 0, 1) := by decide +kernel
theorem d_Sl_finish_16 : decode b_Sl_finish 16 = .ok (.getfield 28, 3) := by decide +kernel
theorem d_Sl_finish_19 : decode b_Sl_finish 19 = .ok (.bipush 8, 2) := by decide +kernel
theorem d_Sl_finish_21 : decode b_Sl_finish 21 = .ok (.iadd, 1) := by decide +kernel
theorem d_Sl_finish_22 : decode b_Sl_finish 22 = .ok (.bipush 64, 2) := by decide +kernel
theorem d_Sl_finish_24 : decode b_Sl_finish 24 = .ok (.iadd, 1) := by decide +kernel
theorem d_Sl_finish_25 : decode b_Sl_finish 25 = .ok (.iconst 1, 1) := by decide +kernel
theorem d_Sl_finish_26 : decode b_Sl_finish 26 = .ok (.isub, 1) := by decide +kernel
theorem d_Sl_finish_27 : decode b_Sl_finish 27 = .ok (.bipush 64, 2) := by decide +kernel
theorem d_Sl_finish_29 : decode b_Sl_finish 29 = .ok (.idiv, 1) := by decide +kernel
theorem d_Sl_finish_30 : decode b_Sl_finish 30 = .ok (.istore_n 2, 1) := by decide +kernel
theorem d_Sl_finish_31 : decode b_Sl_finish 31 = .ok (.aload_n 0, 1) := by decide +kernel
theorem d_Sl_finish_32 : decode b_Sl_finish 32 = .ok (.getfield 16, 3) := by decide +kernel
theorem d_Sl_finish_35 : decode b_Sl_finish 35 = .ok (.iload_n 2, 1) := by decide +kernel
theorem d_Sl_finish_36 : decode b_Sl_finish 36 = .ok (.bipush 16, 2) := by decide +kernel
theorem d_Sl_finish_38 : decode b_Sl_finish 38 = .ok (.imul, 1) := by decide +kernel
theorem d_Sl_finish_39 : decode b_Sl_finish 39 = .ok (.iconst 1, 1) := by decide +kernel
theorem d_Sl_finish_40 : decode b_Sl_finish 40 = .ok (.isub, 1) := by decide +kernel
theorem d_Sl_finish_41 : decode b_Sl_finish 41 = .ok (.iload_n 1, 1) := by decide +kernel
theorem d_Sl_finish_42 : decode b_Sl_finish 42 = .ok (.iastore, 1) := by decide +kernel
theorem d_Sl_finish_43 : decode b_Sl_finish 43 = .ok (.getstatic 36, 3) := by decide +kernel
theorem d_Sl_finish_46 : decode b_Sl_finish 46 = .ok (.iconst 0, 1) := by decide +kernel
theorem d_Sl_finish_47 : decode b_Sl_finish 47 = .ok (.aload_n 0, 1) := by decide +kernel
theorem d_Sl_finish_48 : decode b_Sl_finish 48 = .ok (.getfield 9, 3) := by decide +kernel
theorem d_Sl_finish_51 : decode b_Sl_finish 51 = .ok (.iconst 0, 1) := by decide +kernel
theorem d_Sl_finish_52 : decode b_Sl_finish 52 = .ok (.bipush 8, 2) := by decide +kernel
theorem d_Sl_finish_54 : decode b_Sl_finish 54 = .ok (.invokestatic 39, 3) := by decide +kernel
theorem d_Sl_finish_57 : decode b_Sl_finish 57 = .ok (.iconst 0, 1) := by decide +kernel
theorem d_Sl_finish_58 : decode b_Sl_finish 58 = .ok (.istore_n 3, 1) := by decide +kernel
theorem d_Sl_finish_59 : decode b_Sl_finish 59 = .ok (.iload_n 3, 1) := by decide +kernel
theorem d_Sl_finish_60 : decode b_Sl_finish 60 = .ok (.iload_n 2, 1) := by decide +kernel
theorem d_Sl_finish_61 : decode b_Sl_finish 61 = .ok (.if_icmp .ge 21, 3) := by decide +kernel
theorem d_Sl_finish_64 : decode b_Sl_finish 64 = .ok (.aload_n 0, 1) := by decide +kernel
theorem d_Sl_finish_65 : decode b_Sl_finish 65 = .ok (.iload_n 3, 1) := by decide +kernel
theorem d_Sl_finish_66 : decode b_Sl_finish 66 = .ok (.bipush 16, 2) := by decide +kernel
theorem d_Sl_finish_68 : decode b_Sl_finish 68 = .ok (.imul, 1) := by decide +kernel
theorem d_Sl_finish_69 : decode b_Sl_finish 69 = .ok (.invokevirtual 45, 3) := by decide +kernel
theorem d_Sl_finish_72 : decode b_Sl_finish 72 = .ok (.aload_n 0, 1) := by decide +kernel
theorem d_Sl_finish_73 : decode b_Sl_finish 73 = .ok (.invokevirtual 48, 3) := by decide +kernel
theorem d_Sl_finish_76 : decode b_Sl_finish 76 = .ok (.iinc 3 1, 3) := by decide +kernel
theorem d_Sl_finish_79 : decode b_Sl_finish 79 = .ok (.goto (-20), 3) := by decide +kernel
theorem d_Sl_finish_82 : decode b_Sl_finish 82 = .ok (.return_, 1) := by decide +kernel
theorem d_Sl_seal_0 : decode b_Sl_seal 0 = .ok (.aload_n 0, 1) := by decide +kernel
theorem d_Sl_seal_1 : decode b_Sl_seal 1 = .ok (.aload_n 1, 1) := by decide +kernel
theorem d_Sl_seal_2 : decode b_Sl_seal 2 = .ok (.iload_n 2, 1) := by decide +kernel
theorem d_Sl_seal_3 : decode b_Sl_seal 3 = .ok (.iload_n 3, 1) := by decide +kernel
theorem d_Sl_seal_4 : decode b_Sl_seal 4 = .ok (.ldc 51, 2) := by decide +kernel
theorem d_Sl_seal_6 : decode b_Sl_seal 6 = .ok (.invokevirtual 52, 3) := by decide +kernel
theorem d_Sl_seal_9 : decode b_Sl_seal 9 = .ok (.iconst 0, 1) := by decide +kernel
theorem d_Sl_seal_10 : decode b_Sl_seal 10 = .ok (.istore 6, 2) := by decide +kernel
theorem d_Sl_seal_12 : decode b_Sl_seal 12 = .ok (.iload 6, 2) := by decide +kernel
theorem d_Sl_seal_14 : decode b_Sl_seal 14 = .ok (.iload 5, 2) := by decide +kernel
theorem d_Sl_seal_16 : decode b_Sl_seal 16 = .ok (.if_icmp .ge 18, 3) := by decide +kernel
theorem d_Sl_seal_19 : decode b_Sl_seal 19 = .ok (.aload_n 0, 1) := by decide +kernel
theorem d_Sl_seal_20 : decode b_Sl_seal 20 = .ok (.aload 4, 2) := by decide +kernel
theorem d_Sl_seal_22 : decode b_Sl_seal 22 = .ok (.iload 6, 2) := by decide +kernel
theorem d_Sl_seal_24 : decode b_Sl_seal 24 = .ok (.iaload, 1) := by decide +kernel
theorem d_Sl_seal_25 : decode b_Sl_seal 25 = .ok (.invokevirtual 32, 3) := by decide +kernel
theorem d_Sl_seal_28 : decode b_Sl_seal 28 = .ok (.iinc 6 1, 3) := by decide +kernel
theorem d_Sl_seal_31 : decode b_Sl_seal 31 = .ok (.goto (-19), 3) := by decide +kernel
theorem d_Sl_seal_34 : decode b_Sl_seal 34 = .ok (.aload_n 0, 1) := by decide +kernel
theorem d_Sl_seal_35 : decode b_Sl_seal 35 = .ok (.invokevirtual 56, 3) := by decide +kernel
theorem d_Sl_seal_38 : decode b_Sl_seal 38 = .ok (.aload_n 0, 1) := by decide +kernel
theorem d_Sl_seal_39 : decode b_Sl_seal 39 = .ok (.aload_n 1, 1) := by decide +kernel
theorem d_Sl_seal_40 : decode b_Sl_seal 40 = .ok (.iload_n 2, 1) := by decide +kernel
theorem d_Sl_seal_41 : decode b_Sl_seal 41 = .ok (.iload_n 3, 1) := by decide +kernel
theorem d_Sl_seal_42 : decode b_Sl_seal 42 = .ok (.ldc 59, 2) := by decide +kernel
theorem d_Sl_seal_44 : decode b_Sl_seal 44 = .ok (.invokevirtual 52, 3) := by decide +kernel
theorem d_Sl_seal_47 : decode b_Sl_seal 47 = .ok (.aload_n 0, 1) := by decide +kernel
theorem d_Sl_seal_48 : decode b_Sl_seal 48 = .ok (.getfield 9, 3) := by decide +kernel
theorem d_Sl_seal_51 : decode b_Sl_seal 51 = .ok (.iconst 0, 1) := by decide +kernel
theorem d_Sl_seal_52 : decode b_Sl_seal 52 = .ok (.aload_n 0, 1) := by decide +kernel
theorem d_Sl_seal_53 : decode b_Sl_seal 53 = .ok (.getfield 16, 3) := by decide +kernel
theorem d_Sl_seal_56 : decode b_Sl_seal 56 = .ok (.bipush 16, 2) := by decide +kernel
theorem d_Sl_seal_58 : decode b_Sl_seal 58 = .ok (.bipush 8, 2) := by decide +kernel
theorem d_Sl_seal_60 : decode b_Sl_seal 60 = .ok (.invokestatic 39, 3) := by decide +kernel
theorem d_Sl_seal_63 : decode b_Sl_seal 63 = .ok (.aload_n 0, 1) := by decide +kernel
theorem d_Sl_seal_64 : decode b_Sl_seal 64 = .ok (.dup, 1) := by decide +kernel
theorem d_Sl_seal_65 : decode b_Sl_seal 65 = .ok (.getfield 28, 3) := by decide +kernel
theorem d_Sl_seal_68 : decode b_Sl_seal 68 = .ok (.bipush 32, 2) := by decide +kernel
theorem d_Sl_seal_70 : decode b_Sl_seal 70 = .ok (.iadd, 1) := by decide +kernel
theorem d_Sl_seal_71 : decode b_Sl_seal 71 = .ok (.putfield 28, 3) := by decide +kernel
theorem d_Sl_seal_74 : decode b_Sl_seal 74 = .ok (.aload_n 0, 1) := by decide +kernel
theorem d_Sl_seal_75 : decode b_Sl_seal 75 = .ok (.invokevirtual 56, 3) := by decide +kernel
theorem d_Sl_seal_78 : decode b_Sl_seal 78 = .ok (.return_, 1) := by decide +kernel
