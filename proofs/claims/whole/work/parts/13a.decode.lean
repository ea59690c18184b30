theorem d_Rc_init_0 : decode b_Rc_init 0 = .ok (.aload_n 0, 1) := by decide +kernel
theorem d_Rc_init_1 : decode b_Rc_init 1 = .ok (.invokespecial 3, 3) := by decide +kernel
theorem d_Rc_init_4 : decode b_Rc_init 4 = .ok (.aload_n 0, 1) := by decide +kernel
theorem d_Rc_init_5 : decode b_Rc_init 5 = .ok (.bipush 8, 2) := by decide +kernel
theorem d_Rc_init_7 : decode b_Rc_init 7 = .ok (.anewarray 9, 3) := by decide +kernel
theorem d_Rc_init_10 : decode b_Rc_init 10 = .ok (.putfield 11, 3) := by decide +kernel
theorem d_Rc_init_13 : decode b_Rc_init 13 = .ok (.aload_n 0, 1) := by decide +kernel
theorem d_Rc_init_14 : decode b_Rc_init 14 = .ok (.new 17, 3) := by decide +kernel
theorem d_Rc_init_17 : decode b_Rc_init 17 = .ok (.dup, 1) := by decide +kernel
theorem d_Rc_init_18 : decode b_Rc_init 18 = .ok (.invokespecial 19, 3) := by decide +kernel
theorem d_Rc_init_21 : decode b_Rc_init 21 = .ok (.putfield 20, 3) := by decide +kernel
theorem d_Rc_init_24 : decode b_Rc_init 24 = .ok (.aload_n 0, 1) := by decide +kernel
theorem d_Rc_init_25 : decode b_Rc_init 25 = .ok (.new 17, 3) := by decide +kernel
theorem d_Rc_init_28 : decode b_Rc_init 28 = .ok (.dup, 1) := by decide +kernel
theorem d_Rc_init_29 : decode b_Rc_init 29 = .ok (.invokespecial 19, 3) := by decide +kernel
theorem d_Rc_init_32 : decode b_Rc_init 32 = .ok (.putfield 24, 3) := by decide +kernel
theorem d_Rc_init_35 : decode b_Rc_init 35 = .ok (.aload_n 0, 1) := by decide +kernel
theorem d_Rc_init_36 : decode b_Rc_init 36 = .ok (.bipush 7, 2) := by decide +kernel
theorem d_Rc_init_38 : decode b_Rc_init 38 = .ok (.newarray .int, 2) := by decide +kernel
theorem d_Rc_init_40 : decode b_Rc_init 40 = .ok (.putfield 27, 3) := by decide +kernel
theorem d_Rc_init_43 : decode b_Rc_init 43 = .ok (.aload_n 0, 1) := by decide +kernel
theorem d_Rc_init_44 : decode b_Rc_init 44 = .ok (.aload_n 1, 1) := by decide +kernel
theorem d_Rc_init_45 : decode b_Rc_init 45 = .ok (.putfield 31, 3) := by decide +kernel
theorem d_Rc_init_48 : decode b_Rc_init 48 = .ok (.aload_n 0, 1) := by decide +kernel
theorem d_Rc_init_49 : decode b_Rc_init 49 = .ok (.aload_n 2, 1) := by decide +kernel
theorem d_Rc_init_50 : decode b_Rc_init 50 = .ok (.putfield 35, 3) := by decide +kernel
theorem d_Rc_init_53 : decode b_Rc_init 53 = .ok (.iconst 0, 1) := by decide +kernel
theorem d_Rc_init_54 : decode b_Rc_init 54 = .ok (.istore_n 3, 1) := by decide +kernel
theorem d_Rc_init_55 : decode b_Rc_init 55 = .ok (.iload_n 3, 1) := by decide +kernel
theorem d_Rc_init_56 : decode b_Rc_init 56 = .ok (.bipush 8, 2) := by decide +kernel
theorem d_Rc_init_58 : decode b_Rc_init 58 = .ok (.if_icmp .ge 22, 3) := by decide +kernel
theorem d_Rc_init_61 : decode b_Rc_init 61 = .ok (.aload_n 0, 1) := by decide +kernel
theorem d_Rc_init_62 : decode b_Rc_init 62 = .ok (.getfield 11, 3) := by decide +kernel
theorem d_Rc_init_65 : decode b_Rc_init 65 = .ok (.iload_n 3, 1) := by decide +kernel
theorem d_Rc_init_66 : decode b_Rc_init 66 = .ok (.new 9, 3) := by decide +kernel
theorem d_Rc_init_69 : decode b_Rc_init 69 = .ok (.dup, 1) := by decide +kernel
theorem d_Rc_init_70 : decode b_Rc_init 70 = .ok (.invokespecial 39, 3) := by decide +kernel
theorem d_Rc_init_73 : decode b_Rc_init 73 = .ok (.aastore, 1) := by decide +kernel
theorem d_Rc_init_74 : decode b_Rc_init 74 = .ok (.iinc 3 1, 3) := by decide +kernel
theorem d_Rc_init_77 : decode b_Rc_init 77 = .ok (.goto (-22), 3) := by decide +kernel
theorem d_Rc_init_80 : decode b_Rc_init 80 = .ok (.return_, 1) := by decide +kernel
theorem d_Of_init_0 : decode b_Of_init 0 = .ok (.aload_n 0, 1) := by decide +kernel
theorem d_Of_init_1 : decode b_Of_init 1 = .ok (.invokespecial 1, 3) := by decide +kernel
theorem d_Of_init_4 : decode b_Of_init 4 = .ok (.aload_n 0, 1) := by decide +kernel
theorem d_Of_init_5 : decode b_Of_init 5 = .ok (.new 7, 3) := by decide +kernel
theorem d_Of_init_8 : decode b_Of_init 8 = .ok (.dup, 1) := by decide +kernel
theorem d_Of_init_9 : decode b_Of_init 9 = .ok (.iconst 1, 1) := by decide +kernel
theorem d_Of_init_10 : decode b_Of_init 10 = .ok (.iload_n 1, 1) := by decide +kernel
theorem d_Of_init_11 : decode b_Of_init 11 = .ok (.bipush 8, 2) := by decide +kernel
theorem d_Of_init_13 : decode b_Of_init 13 = .ok (.invokestatic 9, 3) := by decide +kernel
theorem d_Of_init_16 : decode b_Of_init 16 = .ok (.iadd, 1) := by decide +kernel
theorem d_Of_init_17 : decode b_Of_init 17 = .ok (.iconst 1, 1) := by decide +kernel
theorem d_Of_init_18 : decode b_Of_init 18 = .ok (.iload_n 2, 1) := by decide +kernel
theorem d_Of_init_19 : decode b_Of_init 19 = .ok (.sipush 1000, 3) := by decide +kernel
theorem d_Of_init_22 : decode b_Of_init 22 = .ok (.invokestatic 9, 3) := by decide +kernel
theorem d_Of_init_25 : decode b_Of_init 25 = .ok (.iadd, 1) := by decide +kernel
theorem d_Of_init_26 : decode b_Of_init 26 = .ok (.iload_n 3, 1) := by decide +kernel
theorem d_Of_init_27 : decode b_Of_init 27 = .ok (.sipush 10001, 3) := by decide +kernel
theorem d_Of_init_30 : decode b_Of_init 30 = .ok (.invokestatic 9, 3) := by decide +kernel
theorem d_Of_init_33 : decode b_Of_init 33 = .ok (.invokespecial 15, 3) := by decide +kernel
theorem d_Of_init_36 : decode b_Of_init 36 = .ok (.putfield 18, 3) := by decide +kernel
theorem d_Of_init_39 : decode b_Of_init 39 = .ok (.aload_n 0, 1) := by decide +kernel
theorem d_Of_init_40 : decode b_Of_init 40 = .ok (.new 24, 3) := by decide +kernel
theorem d_Of_init_43 : decode b_Of_init 43 = .ok (.dup, 1) := by decide +kernel
theorem d_Of_init_44 : decode b_Of_init 44 = .ok (.invokespecial 26, 3) := by decide +kernel
theorem d_Of_init_47 : decode b_Of_init 47 = .ok (.putfield 27, 3) := by decide +kernel
theorem d_Of_init_50 : decode b_Of_init 50 = .ok (.aload_n 0, 1) := by decide +kernel
theorem d_Of_init_51 : decode b_Of_init 51 = .ok (.bipush 8, 2) := by decide +kernel
theorem d_Of_init_53 : decode b_Of_init 53 = .ok (.newarray .int, 2) := by decide +kernel
theorem d_Of_init_55 : decode b_Of_init 55 = .ok (.putfield 31, 3) := by decide +kernel
theorem d_Of_init_58 : decode b_Of_init 58 = .ok (.aload_n 0, 1) := by decide +kernel
theorem d_Of_init_59 : decode b_Of_init 59 = .ok (.bipush 8, 2) := by decide +kernel
theorem d_Of_init_61 : decode b_Of_init 61 = .ok (.anewarray 35, 3) := by decide +kernel
theorem d_Of_init_64 : decode b_Of_init 64 = .ok (.putfield 37, 3) := by decide +kernel
theorem d_Of_init_67 : decode b_Of_init 67 = .ok (.iconst 0, 1) := by decide +kernel
theorem d_Of_init_68 : decode b_Of_init 68 = .ok (.istore 4, 2) := by decide +kernel
theorem d_Of_init_70 : decode b_Of_init 70 = .ok (.iload 4, 2) := by decide +kernel
theorem d_Of_init_72 : decode b_Of_init 72 = .ok (.bipush 8, 2) := by decide +kernel
theorem d_Of_init_74 : decode b_Of_init 74 = .ok (.if_icmp .ge 23, 3) := by decide +kernel
theorem d_Of_init_77 : decode b_Of_init 77 = .ok (.aload_n 0, 1) := by decide +kernel
theorem d_Of_init_78 : decode b_Of_init 78 = .ok (.getfield 37, 3) := by decide +kernel
theorem d_Of_init_81 : decode b_Of_init 81 = .ok (.iload 4, 2) := by decide +kernel
theorem d_Of_init_83 : decode b_Of_init 83 = .ok (.new 35, 3) := by decide +kernel
theorem d_Of_init_86 : decode b_Of_init 86 = .ok (.dup, 1) := by decide +kernel
theorem d_Of_init_87 : decode b_Of_init 87 = .ok (.invokespecial 41, 3) := by decide +kernel
theorem d_Of_init_90 : decode b_Of_init 90 = .ok (.aastore, 1) := by decide +kernel
theorem d_Of_init_91 : decode b_Of_init 91 = .ok (.iinc 4 1, 3) := by decide +kernel
theorem d_Of_init_94 : decode b_Of_init 94 = .ok (.goto (-24), 3) := by decide +kernel
theorem d_Of_init_97 : decode b_Of_init 97 = .ok (.aload_n 0, 1) := by decide +kernel
theorem d_Of_init_98 : decode b_Of_init 98 = .ok (.new 42, 3) := by decide +kernel
theorem d_Of_init_101 : decode b_Of_init 101 = .ok (.dup, 1) := by decide +kernel
theorem d_Of_init_102 : decode b_Of_init 102 = .ok (.invokespecial 44, 3) := by decide +kernel
theorem d_Of_init_105 : decode b_Of_init 105 = .ok (.putfield 45, 3) := by decide +kernel
theorem d_Of_init_108 : decode b_Of_init 108 = .ok (.aload_n 0, 1) := by decide +kernel
theorem d_Of_init_109 : decode b_Of_init 109 = .ok (.bipush 8, 2) := by decide +kernel
theorem d_Of_init_111 : decode b_Of_init 111 = .ok (.anewarray 49, 3) := by decide +kernel
theorem d_Of_init_114 : decode b_Of_init 114 = .ok (.putfield 51, 3) := by decide +kernel
theorem d_Of_init_117 : decode b_Of_init 117 = .ok (.iconst 0, 1) := by decide +kernel
theorem d_Of_init_118 : decode b_Of_init 118 = .ok (.istore 4, 2) := by decide +kernel
theorem d_Of_init_120 : decode b_Of_init 120 = .ok (.iload 4, 2) := by decide +kernel
theorem d_Of_init_122 : decode b_Of_init 122 = .ok (.bipush 8, 2) := by decide +kernel
theorem d_Of_init_124 : decode b_Of_init 124 = .ok (.if_icmp .ge 31, 3) := by decide +kernel
theorem d_Of_init_127 : decode b_Of_init 127 = .ok (.aload_n 0, 1) := by decide +kernel
theorem d_Of_init_128 : decode b_Of_init 128 = .ok (.getfield 51, 3) := by decide +kernel
theorem d_Of_init_131 : decode b_Of_init 131 = .ok (.iload 4, 2) := by decide +kernel
theorem d_Of_init_133 : decode b_Of_init 133 = .ok (.new 49, 3) := by decide +kernel
theorem d_Of_init_136 : decode b_Of_init 136 = .ok (.dup, 1) := by decide +kernel
theorem d_Of_init_137 : decode b_Of_init 137 = .ok (.aload_n 0, 1) := by decide +kernel
theorem d_Of_init_138 : decode b_Of_init 138 = .ok (.getfield 18, 3) := by decide +kernel
theorem d_Of_init_141 : decode b_Of_init 141 = .ok (.aload_n 0, 1) := by decide +kernel
theorem d_Of_init_142 : decode b_Of_init 142 = .ok (.getfield 27, 3) := by decide +kernel
theorem d_Of_init_145 : decode b_Of_init 145 = .ok (.invokespecial 55, 3) := by decide +kernel
theorem d_Of_init_148 : decode b_Of_init 148 = .ok (.aastore, 1) := by decide +kernel
theorem d_Of_init_149 : decode b_Of_init 149 = .ok (.iinc 4 1, 3) := by decide +kernel
theorem d_Of_init_152 : decode b_Of_init 152 = .ok (.goto (-32), 3) := by decide +kernel
theorem d_Of_init_155 : decode b_Of_init 155 = .ok (.return_, 1) := by decide +kernel
theorem d_Of_count_0 : decode b_Of_count 0 = .ok (.iload_n 1, 1) := by decide +kernel
theorem d_Of_count_1 : decode b_Of_count 1 = .ok (.tableswitch 67 0 3 #[31, 39, 54, 59], 31) := by decide +kernel
theorem d_Of_count_32 : decode b_Of_count 32 = .ok (.aload_n 0, 1) := by decide +kernel
theorem d_Of_count_33 : decode b_Of_count 33 = .ok (.getfield 18, 3) := by decide +kernel
theorem d_Of_count_36 : decode b_Of_count 36 = .ok (.getfield 77, 3) := by decide +kernel
theorem d_Of_count_39 : decode b_Of_count 39 = .ok (.ireturn, 1) := by decide +kernel
theorem d_Of_count_40 : decode b_Of_count 40 = .ok (.aload_n 0, 1) := by decide +kernel
theorem d_Of_count_41 : decode b_Of_count 41 = .ok (.getfield 18, 3) := by decide +kernel
theorem d_Of_count_44 : decode b_Of_count 44 = .ok (.aload_n 0, 1) := by decide +kernel
theorem d_Of_count_45 : decode b_Of_count 45 = .ok (.getfield 18, 3) := by decide +kernel
theorem d_Of_count_48 : decode b_Of_count 48 = .ok (.getfield 77, 3) := by decide +kernel
theorem d_Of_count_51 : decode b_Of_count 51 = .ok (.invokevirtual 80, 3) := by decide +kernel
theorem d_Of_count_54 : decode b_Of_count 54 = .ok (.ireturn, 1) := by decide +kernel
theorem d_Of_count_55 : decode b_Of_count 55 = .ok (.aload_n 0, 1) := by decide +kernel
theorem d_Of_count_56 : decode b_Of_count 56 = .ok (.getfield 58, 3) := by decide +kernel
theorem d_Of_count_59 : decode b_Of_count 59 = .ok (.ireturn, 1) := by decide +kernel
theorem d_Of_count_60 : decode b_Of_count 60 = .ok (.aload_n 0, 1) := by decide +kernel
theorem d_Of_count_61 : decode b_Of_count 61 = .ok (.getfield 45, 3) := by decide +kernel
theorem d_Of_count_64 : decode b_Of_count 64 = .ok (.invokevirtual 107, 3) := by decide +kernel
theorem d_Of_count_67 : decode b_Of_count 67 = .ok (.ireturn, 1) := by decide +kernel
theorem d_Of_count_68 : decode b_Of_count 68 = .ok (.iconst (-1), 1) := by decide +kernel
theorem d_Of_count_69 : decode b_Of_count 69 = .ok (.ireturn, 1) := by decide +kernel
theorem d_Of_post_0 : decode b_Of_post 0 = .ok (.aload_n 1, 1) := by decide +kernel
theorem d_Of_post_1 : decode b_Of_post 1 = .ok (.invokevirtual 180, 3) := by decide +kernel
theorem d_Of_post_4 : decode b_Of_post 4 = .ok (.istore_n 2, 1) := by decide +kernel
theorem d_Of_post_5 : decode b_Of_post 5 = .ok (.aload_n 0, 1) := by decide +kernel
theorem d_Of_post_6 : decode b_Of_post 6 = .ok (.getfield 37, 3) := by decide +kernel
theorem d_Of_post_9 : decode b_Of_post 9 = .ok (.iload_n 2, 1) := by decide +kernel
theorem d_Of_post_10 : decode b_Of_post 10 = .ok (.invokestatic 104, 3) := by decide +kernel
theorem d_Of_post_13 : decode b_Of_post 13 = .ok (.aaload, 1) := by decide +kernel
theorem d_Of_post_14 : decode b_Of_post 14 = .ok (.iload_n 2, 1) := by decide +kernel
theorem d_Of_post_15 : decode b_Of_post 15 = .ok (.invokestatic 187, 3) := by decide +kernel
theorem d_Of_post_18 : decode b_Of_post 18 = .ok (.aload_n 1, 1) := by decide +kernel
theorem d_Of_post_19 : decode b_Of_post 19 = .ok (.aload_n 0, 1) := by decide +kernel
theorem d_Of_post_20 : decode b_Of_post 20 = .ok (.getfield 27, 3) := by decide +kernel
theorem d_Of_post_23 : decode b_Of_post 23 = .ok (.invokevirtual 190, 3) := by decide +kernel
theorem d_Of_post_26 : decode b_Of_post 26 = .ok (.aload_n 1, 1) := by decide +kernel
theorem d_Of_post_27 : decode b_Of_post 27 = .ok (.aload_n 0, 1) := by decide +kernel
theorem d_Of_post_28 : decode b_Of_post 28 = .ok (.getfield 27, 3) := by decide +kernel
theorem d_Of_post_31 : decode b_Of_post 31 = .ok (.getfield 101, 3) := by decide +kernel
theorem d_Of_post_34 : decode b_Of_post 34 = .ok (.invokevirtual 194, 3) := by decide +kernel
theorem d_Of_post_37 : decode b_Of_post 37 = .ok (.iload_n 2, 1) := by decide +kernel
theorem d_Of_post_38 : decode b_Of_post 38 = .ok (.aload_n 0, 1) := by decide +kernel
theorem d_Of_post_39 : decode b_Of_post 39 = .ok (.getfield 18, 3) := by decide +kernel
theorem d_Of_post_42 : decode b_Of_post 42 = .ok (.getfield 198, 3) := by decide +kernel
theorem d_Of_post_45 : decode b_Of_post 45 = .ok (.isub, 1) := by decide +kernel
theorem d_Of_post_46 : decode b_Of_post 46 = .ok (.istore_n 3, 1) := by decide +kernel
theorem d_Of_post_47 : decode b_Of_post 47 = .ok (.iload_n 3, 1) := by decide +kernel
theorem d_Of_post_48 : decode b_Of_post 48 = .ok (.iconst 1, 1) := by decide +kernel
theorem d_Of_post_49 : decode b_Of_post 49 = .ok (.if_icmp .lt 27, 3) := by decide +kernel
theorem d_Of_post_52 : decode b_Of_post 52 = .ok (.aload_n 0, 1) := by decide +kernel
theorem d_Of_post_53 : decode b_Of_post 53 = .ok (.getfield 37, 3) := by decide +kernel
theorem d_Of_post_56 : decode b_Of_post 56 = .ok (.iload_n 3, 1) := by decide +kernel
theorem d_Of_post_57 : decode b_Of_post 57 = .ok (.invokestatic 104, 3) := by decide +kernel
theorem d_Of_post_60 : decode b_Of_post 60 = .ok (.aaload, 1) := by decide +kernel
theorem d_Of_post_61 : decode b_Of_post 61 = .ok (.iload_n 3, 1) := by decide +kernel
theorem d_Of_post_62 : decode b_Of_post 62 = .ok (.invokestatic 187, 3) := by decide +kernel
theorem d_Of_post_65 : decode b_Of_post 65 = .ok (.aload_n 1, 1) := by decide +kernel
theorem d_Of_post_66 : decode b_Of_post 66 = .ok (.getfield 117, 3) := by decide +kernel
theorem d_Of_post_69 : decode b_Of_post 69 = .ok (.aload_n 1, 1) := by decide +kernel
theorem d_Of_post_70 : decode b_Of_post 70 = .ok (.invokevirtual 201, 3) := by decide +kernel
theorem d_Of_post_73 : decode b_Of_post 73 = .ok (.invokevirtual 124, 3) := by decide +kernel
theorem d_Of_post_76 : decode b_Of_post 76 = .ok (.aload_n 0, 1) := by decide +kernel
theorem d_Of_post_77 : decode b_Of_post 77 = .ok (.getfield 45, 3) := by decide +kernel
theorem d_Of_post_80 : decode b_Of_post 80 = .ok (.aload_n 1, 1) := by decide +kernel
theorem d_Of_post_81 : decode b_Of_post 81 = .ok (.invokevirtual 204, 3) := by decide +kernel
theorem d_Of_post_84 : decode b_Of_post 84 = .ok (.pop, 1) := by decide +kernel
theorem d_Of_post_85 : decode b_Of_post 85 = .ok (.aload_n 0, 1) := by decide +kernel
theorem d_Of_post_86 : decode b_Of_post 86 = .ok (.getfield 45, 3) := by decide +kernel
theorem d_Of_post_89 : decode b_Of_post 89 = .ok (.invokevirtual 107, 3) := by decide +kernel
theorem d_Of_post_92 : decode b_Of_post 92 = .ok (.iconst 1, 1) := by decide +kernel
theorem d_Of_post_93 : decode b_Of_post 93 = .ok (.isub, 1) := by decide +kernel
theorem d_Of_post_94 : decode b_Of_post 94 = .ok (.ireturn, 1) := by decide +kernel
theorem d_Of_hasPacketByte_0 : decode b_Of_hasPacketByte 0 = .ok (.iload_n 1, 1) := by decide +kernel
theorem d_Of_hasPacketByte_1 : decode b_Of_hasPacketByte 1 = .ok (.ifCond .lt 41, 3) := by decide +kernel
theorem d_Of_hasPacketByte_4 : decode b_Of_hasPacketByte 4 = .ok (.iload_n 1, 1) := by decide +kernel
theorem d_Of_hasPacketByte_5 : decode b_Of_hasPacketByte 5 = .ok (.aload_n 0, 1) := by decide +kernel
theorem d_Of_hasPacketByte_6 : decode b_Of_hasPacketByte 6 = .ok (.getfield 45, 3) := by decide +kernel
theorem d_Of_hasPacketByte_9 : decode b_Of_hasPacketByte 9 = .ok (.invokevirtual 107, 3) := by decide +kernel
theorem d_Of_hasPacketByte_12 : decode b_Of_hasPacketByte 12 = .ok (.if_icmp .ge 30, 3) := by decide +kernel
theorem d_Of_hasPacketByte_15 : decode b_Of_hasPacketByte 15 = .ok (.iload_n 2, 1) := by decide +kernel
theorem d_Of_hasPacketByte_16 : decode b_Of_hasPacketByte 16 = .ok (.ifCond .lt 26, 3) := by decide +kernel
theorem d_Of_hasPacketByte_19 : decode b_Of_hasPacketByte 19 = .ok (.iload_n 2, 1) := by decide +kernel
theorem d_Of_hasPacketByte_20 : decode b_Of_hasPacketByte 20 = .ok (.aload_n 0, 1) := by decide +kernel
theorem d_Of_hasPacketByte_21 : decode b_Of_hasPacketByte 21 = .ok (.getfield 45, 3) := by decide +kernel
theorem d_Of_hasPacketByte_24 : decode b_Of_hasPacketByte 24 = .ok (.iload_n 1, 1) := by decide +kernel
theorem d_Of_hasPacketByte_25 : decode b_Of_hasPacketByte 25 = .ok (.invokevirtual 132, 3) := by decide +kernel
theorem d_Of_hasPacketByte_28 : decode b_Of_hasPacketByte 28 = .ok (.checkcast 114, 3) := by decide +kernel
theorem d_Of_hasPacketByte_31 : decode b_Of_hasPacketByte 31 = .ok (.getfield 117, 3) := by decide +kernel
theorem d_Of_hasPacketByte_34 : decode b_Of_hasPacketByte 34 = .ok (.arraylength, 1) := by decide +kernel
theorem d_Of_hasPacketByte_35 : decode b_Of_hasPacketByte 35 = .ok (.if_icmp .ge 7, 3) := by decide +kernel
theorem d_Of_hasPacketByte_38 : decode b_Of_hasPacketByte 38 = .ok (.iconst 1, 1) := by decide +kernel
theorem d_Of_hasPacketByte_39 : decode b_Of_hasPacketByte 39 = .ok (.goto 4, 3) := by decide +kernel
theorem d_Of_hasPacketByte_42 : decode b_Of_hasPacketByte 42 = .ok (.iconst 0, 1) := by decide +kernel
theorem d_Of_hasPacketByte_43 : decode b_Of_hasPacketByte 43 = .ok (.ireturn, 1) := by decide +kernel
theorem d_Of_isKept_0 : decode b_Of_isKept 0 = .ok (.aload_n 0, 1) := by decide +kernel
theorem d_Of_isKept_1 : decode b_Of_isKept 1 = .ok (.iload_n 1, 1) := by decide +kernel
theorem d_Of_isKept_2 : decode b_Of_isKept 2 = .ok (.invokevirtual 139, 3) := by decide +kernel
theorem d_Of_isKept_5 : decode b_Of_isKept 5 = .ok (.ifCond .eq 27, 3) := by decide +kernel
theorem d_Of_isKept_8 : decode b_Of_isKept 8 = .ok (.iload_n 2, 1) := by decide +kernel
theorem d_Of_isKept_9 : decode b_Of_isKept 9 = .ok (.ifCond .lt 23, 3) := by decide +kernel
theorem d_Of_isKept_12 : decode b_Of_isKept 12 = .ok (.iload_n 2, 1) := by decide +kernel
theorem d_Of_isKept_13 : decode b_Of_isKept 13 = .ok (.aload_n 0, 1) := by decide +kernel
theorem d_Of_isKept_14 : decode b_Of_isKept 14 = .ok (.getfield 51, 3) := by decide +kernel
theorem d_Of_isKept_17 : decode b_Of_isKept 17 = .ok (.iload_n 1, 1) := by decide +kernel
theorem d_Of_isKept_18 : decode b_Of_isKept 18 = .ok (.aaload, 1) := by decide +kernel
theorem d_Of_isKept_19 : decode b_Of_isKept 19 = .ok (.getfield 177, 3) := by decide +kernel
theorem d_Of_isKept_22 : decode b_Of_isKept 22 = .ok (.invokevirtual 107, 3) := by decide +kernel
theorem d_Of_isKept_25 : decode b_Of_isKept 25 = .ok (.if_icmp .ge 7, 3) := by decide +kernel
theorem d_Of_isKept_28 : decode b_Of_isKept 28 = .ok (.iconst 1, 1) := by decide +kernel
theorem d_Of_isKept_29 : decode b_Of_isKept 29 = .ok (.goto 4, 3) := by decide +kernel
theorem d_Of_isKept_32 : decode b_Of_isKept 32 = .ok (.iconst 0, 1) := by decide +kernel
theorem d_Of_isKept_33 : decode b_Of_isKept 33 = .ok (.ireturn, 1) := by decide +kernel
theorem d_Rc_beginAnew_0 : decode b_Rc_beginAnew 0 = .ok (.iconst 0, 1) := by decide +kernel
theorem d_Rc_beginAnew_1 : decode b_Rc_beginAnew 1 = .ok (.istore_n 1, 1) := by decide +kernel
theorem d_Rc_beginAnew_2 : decode b_Rc_beginAnew 2 = .ok (.iload_n 1, 1) := by decide +kernel
theorem d_Rc_beginAnew_3 : decode b_Rc_beginAnew 3 = .ok (.bipush 8, 2) := by decide +kernel
theorem d_Rc_beginAnew_5 : decode b_Rc_beginAnew 5 = .ok (.if_icmp .ge 18, 3) := by decide +kernel
theorem d_Rc_beginAnew_8 : decode b_Rc_beginAnew 8 = .ok (.aload_n 0, 1) := by decide +kernel
theorem d_Rc_beginAnew_9 : decode b_Rc_beginAnew 9 = .ok (.getfield 11, 3) := by decide +kernel
theorem d_Rc_beginAnew_12 : decode b_Rc_beginAnew 12 = .ok (.iload_n 1, 1) := by decide +kernel
theorem d_Rc_beginAnew_13 : decode b_Rc_beginAnew 13 = .ok (.aaload, 1) := by decide +kernel
theorem d_Rc_beginAnew_14 : decode b_Rc_beginAnew 14 = .ok (.invokevirtual 40, 3) := by decide +kernel
theorem d_Rc_beginAnew_17 : decode b_Rc_beginAnew 17 = .ok (.iinc 1 1, 3) := by decide +kernel
theorem d_Rc_beginAnew_20 : decode b_Rc_beginAnew 20 = .ok (.goto (-18), 3) := by decide +kernel
theorem d_Rc_beginAnew_23 : decode b_Rc_beginAnew 23 = .ok (.aload_n 0, 1) := by decide +kernel
theorem d_Rc_beginAnew_24 : decode b_Rc_beginAnew 24 = .ok (.getfield 20, 3) := by decide +kernel
theorem d_Rc_beginAnew_27 : decode b_Rc_beginAnew 27 = .ok (.invokevirtual 43, 3) := by decide +kernel
theorem d_Rc_beginAnew_30 : decode b_Rc_beginAnew 30 = .ok (.aload_n 0, 1) := by decide +kernel
theorem d_Rc_beginAnew_31 : decode b_Rc_beginAnew 31 = .ok (.getfield 24, 3) := by decide +kernel
theorem d_Rc_beginAnew_34 : decode b_Rc_beginAnew 34 = .ok (.invokevirtual 43, 3) := by decide +kernel
theorem d_Rc_beginAnew_37 : decode b_Rc_beginAnew 37 = .ok (.aload_n 0, 1) := by decide +kernel
theorem d_Rc_beginAnew_38 : decode b_Rc_beginAnew 38 = .ok (.getfield 27, 3) := by decide +kernel
theorem d_Rc_beginAnew_41 : decode b_Rc_beginAnew 41 = .ok (.iconst 0, 1) := by decide +kernel
theorem d_Rc_beginAnew_42 : decode b_Rc_beginAnew 42 = .ok (.invokestatic 46, 3) := by decide +kernel
theorem d_Rc_beginAnew_45 : decode b_Rc_beginAnew 45 = .ok (.aload_n 0, 1) := by decide +kernel
theorem d_Rc_beginAnew_46 : decode b_Rc_beginAnew 46 = .ok (.iconst 0, 1) := by decide +kernel
theorem d_Rc_beginAnew_47 : decode b_Rc_beginAnew 47 = .ok (.putfield 52, 3) := by decide +kernel
theorem d_Rc_beginAnew_50 : decode b_Rc_beginAnew 50 = .ok (.return_, 1) := by decide +kernel
theorem d_Rc_latestInterval_0 : decode b_Rc_latestInterval 0 = .ok (.bipush 7, 2) := by decide +kernel
theorem d_Rc_latestInterval_2 : decode b_Rc_latestInterval 2 = .ok (.istore_n 1, 1) := by decide +kernel
theorem d_Rc_latestInterval_3 : decode b_Rc_latestInterval 3 = .ok (.iload_n 1, 1) := by decide +kernel
theorem d_Rc_latestInterval_4 : decode b_Rc_latestInterval 4 = .ok (.ifCond .lt 36, 3) := by decide +kernel
theorem d_Rc_latestInterval_7 : decode b_Rc_latestInterval 7 = .ok (.aload_n 0, 1) := by decide +kernel
theorem d_Rc_latestInterval_8 : decode b_Rc_latestInterval 8 = .ok (.getfield 11, 3) := by decide +kernel
theorem d_Rc_latestInterval_11 : decode b_Rc_latestInterval 11 = .ok (.iload_n 1, 1) := by decide +kernel
theorem d_Rc_latestInterval_12 : decode b_Rc_latestInterval 12 = .ok (.aaload, 1) := by decide +kernel
theorem d_Rc_latestInterval_13 : decode b_Rc_latestInterval 13 = .ok (.invokevirtual 56, 3) := by decide +kernel
theorem d_Rc_latestInterval_16 : decode b_Rc_latestInterval 16 = .ok (.ifCond .eq 18, 3) := by decide +kernel
theorem d_Rc_latestInterval_19 : decode b_Rc_latestInterval 19 = .ok (.iload_n 1, 1) := by decide +kernel
theorem d_Rc_latestInterval_20 : decode b_Rc_latestInterval 20 = .ok (.bipush 64, 2) := by decide +kernel
theorem d_Rc_latestInterval_22 : decode b_Rc_latestInterval 22 = .ok (.imul, 1) := by decide +kernel
theorem d_Rc_latestInterval_23 : decode b_Rc_latestInterval 23 = .ok (.aload_n 0, 1) := by decide +kernel
theorem d_Rc_latestInterval_24 : decode b_Rc_latestInterval 24 = .ok (.getfield 11, 3) := by decide +kernel
theorem d_Rc_latestInterval_27 : decode b_Rc_latestInterval 27 = .ok (.iload_n 1, 1) := by decide +kernel
theorem d_Rc_latestInterval_28 : decode b_Rc_latestInterval 28 = .ok (.aaload, 1) := by decide +kernel
theorem d_Rc_latestInterval_29 : decode b_Rc_latestInterval 29 = .ok (.getfield 60, 3) := by decide +kernel
theorem d_Rc_latestInterval_32 : decode b_Rc_latestInterval 32 = .ok (.iadd, 1) := by decide +kernel
theorem d_Rc_latestInterval_33 : decode b_Rc_latestInterval 33 = .ok (.ireturn, 1) := by decide +kernel
theorem d_Rc_latestInterval_34 : decode b_Rc_latestInterval 34 = .ok (.iinc 1 (-1), 3) := by decide +kernel
theorem d_Rc_latestInterval_37 : decode b_Rc_latestInterval 37 = .ok (.goto (-34), 3) := by decide +kernel
theorem d_Rc_latestInterval_40 : decode b_Rc_latestInterval 40 = .ok (.iconst (-1), 1) := by decide +kernel
theorem d_Rc_latestInterval_41 : decode b_Rc_latestInterval 41 = .ok (.ireturn, 1) := by decide +kernel
theorem d_Rc_takeShownKey_0 : decode b_Rc_takeShownKey 0 = .ok (.aload_n 1, 1) := by decide +kernel
theorem d_Rc_takeShownKey_1 : decode b_Rc_takeShownKey 1 = .ok (.invokevirtual 75, 3) := by decide +kernel
theorem d_Rc_takeShownKey_4 : decode b_Rc_takeShownKey 4 = .ok (.aload_n 0, 1) := by decide +kernel
theorem d_Rc_takeShownKey_5 : decode b_Rc_takeShownKey 5 = .ok (.getfield 31, 3) := by decide +kernel
theorem d_Rc_takeShownKey_8 : decode b_Rc_takeShownKey 8 = .ok (.getfield 102, 3) := by decide +kernel
theorem d_Rc_takeShownKey_11 : decode b_Rc_takeShownKey 11 = .ok (.isub, 1) := by decide +kernel
theorem d_Rc_takeShownKey_12 : decode b_Rc_takeShownKey 12 = .ok (.istore_n 2, 1) := by decide +kernel
theorem d_Rc_takeShownKey_13 : decode b_Rc_takeShownKey 13 = .ok (.iload_n 2, 1) := by decide +kernel
theorem d_Rc_takeShownKey_14 : decode b_Rc_takeShownKey 14 = .ok (.iconst 1, 1) := by decide +kernel
theorem d_Rc_takeShownKey_15 : decode b_Rc_takeShownKey 15 = .ok (.if_icmp .ge 5, 3) := by decide +kernel
theorem d_Rc_takeShownKey_18 : decode b_Rc_takeShownKey 18 = .ok (.iconst 1, 1) := by decide +kernel
theorem d_Rc_takeShownKey_19 : decode b_Rc_takeShownKey 19 = .ok (.ireturn, 1) := by decide +kernel
theorem d_Rc_takeShownKey_20 : decode b_Rc_takeShownKey 20 = .ok (.aload_n 0, 1) := by decide +kernel
theorem d_Rc_takeShownKey_21 : decode b_Rc_takeShownKey 21 = .ok (.getfield 11, 3) := by decide +kernel
theorem d_Rc_takeShownKey_24 : decode b_Rc_takeShownKey 24 = .ok (.iload_n 2, 1) := by decide +kernel
theorem d_Rc_takeShownKey_25 : decode b_Rc_takeShownKey 25 = .ok (.invokestatic 105, 3) := by decide +kernel
theorem d_Rc_takeShownKey_28 : decode b_Rc_takeShownKey 28 = .ok (.aaload, 1) := by decide +kernel
theorem d_Rc_takeShownKey_29 : decode b_Rc_takeShownKey 29 = .ok (.astore_n 3, 1) := by decide +kernel
theorem d_Rc_takeShownKey_30 : decode b_Rc_takeShownKey 30 = .ok (.iload_n 2, 1) := by decide +kernel
theorem d_Rc_takeShownKey_31 : decode b_Rc_takeShownKey 31 = .ok (.invokestatic 109, 3) := by decide +kernel
theorem d_Rc_takeShownKey_34 : decode b_Rc_takeShownKey 34 = .ok (.istore 4, 2) := by decide +kernel
theorem d_Rc_takeShownKey_36 : decode b_Rc_takeShownKey 36 = .ok (.aload_n 3, 1) := by decide +kernel
theorem d_Rc_takeShownKey_37 : decode b_Rc_takeShownKey 37 = .ok (.invokevirtual 56, 3) := by decide +kernel
theorem d_Rc_takeShownKey_40 : decode b_Rc_takeShownKey 40 = .ok (.ifCond .eq 12, 3) := by decide +kernel
theorem d_Rc_takeShownKey_43 : decode b_Rc_takeShownKey 43 = .ok (.iload 4, 2) := by decide +kernel
theorem d_Rc_takeShownKey_45 : decode b_Rc_takeShownKey 45 = .ok (.aload_n 3, 1) := by decide +kernel
theorem d_Rc_takeShownKey_46 : decode b_Rc_takeShownKey 46 = .ok (.getfield 112, 3) := by decide +kernel
theorem d_Rc_takeShownKey_49 : decode b_Rc_takeShownKey 49 = .ok (.if_icmp .ge 5, 3) := by decide +kernel
theorem d_Rc_takeShownKey_52 : decode b_Rc_takeShownKey 52 = .ok (.iconst 1, 1) := by decide +kernel
theorem d_Rc_takeShownKey_53 : decode b_Rc_takeShownKey 53 = .ok (.ireturn, 1) := by decide +kernel
theorem d_Rc_takeShownKey_54 : decode b_Rc_takeShownKey 54 = .ok (.iload 4, 2) := by decide +kernel
theorem d_Rc_takeShownKey_56 : decode b_Rc_takeShownKey 56 = .ok (.aload_n 3, 1) := by decide +kernel
theorem d_Rc_takeShownKey_57 : decode b_Rc_takeShownKey 57 = .ok (.getfield 60, 3) := by decide +kernel
theorem d_Rc_takeShownKey_60 : decode b_Rc_takeShownKey 60 = .ok (.if_icmp .gt 18, 3) := by decide +kernel
theorem d_Rc_takeShownKey_63 : decode b_Rc_takeShownKey 63 = .ok (.aload_n 3, 1) := by decide +kernel
theorem d_Rc_takeShownKey_64 : decode b_Rc_takeShownKey 64 = .ok (.iload 4, 2) := by decide +kernel
theorem d_Rc_takeShownKey_66 : decode b_Rc_takeShownKey 66 = .ok (.aload_n 1, 1) := by decide +kernel
theorem d_Rc_takeShownKey_67 : decode b_Rc_takeShownKey 67 = .ok (.getfield 115, 3) := by decide +kernel
theorem d_Rc_takeShownKey_70 : decode b_Rc_takeShownKey 70 = .ok (.aload_n 1, 1) := by decide +kernel
theorem d_Rc_takeShownKey_71 : decode b_Rc_takeShownKey 71 = .ok (.invokevirtual 118, 3) := by decide +kernel
theorem d_Rc_takeShownKey_74 : decode b_Rc_takeShownKey 74 = .ok (.invokevirtual 121, 3) := by decide +kernel
theorem d_Rc_takeShownKey_77 : decode b_Rc_takeShownKey 77 = .ok (.ireturn, 1) := by decide +kernel
theorem d_Rc_takeShownKey_78 : decode b_Rc_takeShownKey 78 = .ok (.aload_n 3, 1) := by decide +kernel
theorem d_Rc_takeShownKey_79 : decode b_Rc_takeShownKey 79 = .ok (.iload 4, 2) := by decide +kernel
theorem d_Rc_takeShownKey_81 : decode b_Rc_takeShownKey 81 = .ok (.aload_n 1, 1) := by decide +kernel
theorem d_Rc_takeShownKey_82 : decode b_Rc_takeShownKey 82 = .ok (.getfield 115, 3) := by decide +kernel
theorem d_Rc_takeShownKey_85 : decode b_Rc_takeShownKey 85 = .ok (.aload_n 1, 1) := by decide +kernel
theorem d_Rc_takeShownKey_86 : decode b_Rc_takeShownKey 86 = .ok (.invokevirtual 118, 3) := by decide +kernel
theorem d_Rc_takeShownKey_89 : decode b_Rc_takeShownKey 89 = .ok (.invokevirtual 125, 3) := by decide +kernel
theorem d_Rc_takeShownKey_92 : decode b_Rc_takeShownKey 92 = .ok (.aload_n 3, 1) := by decide +kernel
theorem d_Rc_takeShownKey_93 : decode b_Rc_takeShownKey 93 = .ok (.iload 4, 2) := by decide +kernel
theorem d_Rc_takeShownKey_95 : decode b_Rc_takeShownKey 95 = .ok (.aload_n 3, 1) := by decide +kernel
theorem d_Rc_takeShownKey_96 : decode b_Rc_takeShownKey 96 = .ok (.getfield 60, 3) := by decide +kernel
theorem d_Rc_takeShownKey_99 : decode b_Rc_takeShownKey 99 = .ok (.iconst 1, 1) := by decide +kernel
theorem d_Rc_takeShownKey_100 : decode b_Rc_takeShownKey 100 = .ok (.iadd, 1) := by decide +kernel
theorem d_Rc_takeShownKey_101 : decode b_Rc_takeShownKey 101 = .ok (.aload_n 0, 1) := by decide +kernel
theorem d_Rc_takeShownKey_102 : decode b_Rc_takeShownKey 102 = .ok (.getfield 35, 3) := by decide +kernel
theorem d_Rc_takeShownKey_105 : decode b_Rc_takeShownKey 105 = .ok (.invokevirtual 129, 3) := by decide +kernel
theorem d_Rc_takeShownKey_108 : decode b_Rc_takeShownKey 108 = .ok (.aload_n 3, 1) := by decide +kernel
theorem d_Rc_takeShownKey_109 : decode b_Rc_takeShownKey 109 = .ok (.iload 4, 2) := by decide +kernel
theorem d_Rc_takeShownKey_111 : decode b_Rc_takeShownKey 111 = .ok (.aload_n 0, 1) := by decide +kernel
theorem d_Rc_takeShownKey_112 : decode b_Rc_takeShownKey 112 = .ok (.getfield 35, 3) := by decide +kernel
theorem d_Rc_takeShownKey_115 : decode b_Rc_takeShownKey 115 = .ok (.invokevirtual 133, 3) := by decide +kernel
theorem d_Rc_takeShownKey_118 : decode b_Rc_takeShownKey 118 = .ok (.ireturn, 1) := by decide +kernel
theorem d_Rc_hasKeyFor_0 : decode b_Rc_hasKeyFor 0 = .ok (.aload_n 0, 1) := by decide +kernel
theorem d_Rc_hasKeyFor_1 : decode b_Rc_hasKeyFor 1 = .ok (.getfield 11, 3) := by decide +kernel
theorem d_Rc_hasKeyFor_4 : decode b_Rc_hasKeyFor 4 = .ok (.iload_n 1, 1) := by decide +kernel
theorem d_Rc_hasKeyFor_5 : decode b_Rc_hasKeyFor 5 = .ok (.invokestatic 105, 3) := by decide +kernel
theorem d_Rc_hasKeyFor_8 : decode b_Rc_hasKeyFor 8 = .ok (.aaload, 1) := by decide +kernel
theorem d_Rc_hasKeyFor_9 : decode b_Rc_hasKeyFor 9 = .ok (.getfield 60, 3) := by decide +kernel
theorem d_Rc_hasKeyFor_12 : decode b_Rc_hasKeyFor 12 = .ok (.iload_n 1, 1) := by decide +kernel
theorem d_Rc_hasKeyFor_13 : decode b_Rc_hasKeyFor 13 = .ok (.invokestatic 109, 3) := by decide +kernel
theorem d_Rc_hasKeyFor_16 : decode b_Rc_hasKeyFor 16 = .ok (.if_icmp .lt 7, 3) := by decide +kernel
theorem d_Rc_hasKeyFor_19 : decode b_Rc_hasKeyFor 19 = .ok (.iconst 1, 1) := by decide +kernel
theorem d_Rc_hasKeyFor_20 : decode b_Rc_hasKeyFor 20 = .ok (.goto 4, 3) := by decide +kernel
theorem d_Rc_hasKeyFor_23 : decode b_Rc_hasKeyFor 23 = .ok (.iconst 0, 1) := by decide +kernel
theorem d_Rc_hasKeyFor_24 : decode b_Rc_hasKeyFor 24 = .ok (.ireturn, 1) := by decide +kernel
theorem d_Rc_holdsTwinOf_0 : decode b_Rc_holdsTwinOf 0 = .ok (.iconst 0, 1) := by decide +kernel
theorem d_Rc_holdsTwinOf_1 : decode b_Rc_holdsTwinOf 1 = .ok (.istore_n 2, 1) := by decide +kernel
theorem d_Rc_holdsTwinOf_2 : decode b_Rc_holdsTwinOf 2 = .ok (.iload_n 2, 1) := by decide +kernel
theorem d_Rc_holdsTwinOf_3 : decode b_Rc_holdsTwinOf 3 = .ok (.aload_n 0, 1) := by decide +kernel
theorem d_Rc_holdsTwinOf_4 : decode b_Rc_holdsTwinOf 4 = .ok (.getfield 20, 3) := by decide +kernel
theorem d_Rc_holdsTwinOf_7 : decode b_Rc_holdsTwinOf 7 = .ok (.invokevirtual 95, 3) := by decide +kernel
theorem d_Rc_holdsTwinOf_10 : decode b_Rc_holdsTwinOf 10 = .ok (.if_icmp .ge 29, 3) := by decide +kernel
theorem d_Rc_holdsTwinOf_13 : decode b_Rc_holdsTwinOf 13 = .ok (.aload_n 0, 1) := by decide +kernel
theorem d_Rc_holdsTwinOf_14 : decode b_Rc_holdsTwinOf 14 = .ok (.getfield 20, 3) := by decide +kernel
theorem d_Rc_holdsTwinOf_17 : decode b_Rc_holdsTwinOf 17 = .ok (.iload_n 2, 1) := by decide +kernel
theorem d_Rc_holdsTwinOf_18 : decode b_Rc_holdsTwinOf 18 = .ok (.invokevirtual 137, 3) := by decide +kernel
theorem d_Rc_holdsTwinOf_21 : decode b_Rc_holdsTwinOf 21 = .ok (.checkcast 64, 3) := by decide +kernel
theorem d_Rc_holdsTwinOf_24 : decode b_Rc_holdsTwinOf 24 = .ok (.aload_n 1, 1) := by decide +kernel
theorem d_Rc_holdsTwinOf_25 : decode b_Rc_holdsTwinOf 25 = .ok (.invokevirtual 141, 3) := by decide +kernel
theorem d_Rc_holdsTwinOf_28 : decode b_Rc_holdsTwinOf 28 = .ok (.ifCond .eq 5, 3) := by decide +kernel
theorem d_Rc_holdsTwinOf_31 : decode b_Rc_holdsTwinOf 31 = .ok (.iconst 1, 1) := by decide +kernel
theorem d_Rc_holdsTwinOf_32 : decode b_Rc_holdsTwinOf 32 = .ok (.ireturn, 1) := by decide +kernel
theorem d_Rc_holdsTwinOf_33 : decode b_Rc_holdsTwinOf 33 = .ok (.iinc 2 1, 3) := by decide +kernel
theorem d_Rc_holdsTwinOf_36 : decode b_Rc_holdsTwinOf 36 = .ok (.goto (-34), 3) := by decide +kernel
theorem d_Rc_holdsTwinOf_39 : decode b_Rc_holdsTwinOf 39 = .ok (.iconst 0, 1) := by decide +kernel
theorem d_Rc_holdsTwinOf_40 : decode b_Rc_holdsTwinOf 40 = .ok (.ireturn, 1) := by decide +kernel
theorem d_Rc_nextToRelease_0 : decode b_Rc_nextToRelease 0 = .ok (.iconst (-1), 1) := by decide +kernel
theorem d_Rc_nextToRelease_1 : decode b_Rc_nextToRelease 1 = .ok (.istore_n 1, 1) := by decide +kernel
theorem d_Rc_nextToRelease_2 : decode b_Rc_nextToRelease 2 = .ok (.sipush 513, 3) := by decide +kernel
theorem d_Rc_nextToRelease_5 : decode b_Rc_nextToRelease 5 = .ok (.istore_n 2, 1) := by decide +kernel
theorem d_Rc_nextToRelease_6 : decode b_Rc_nextToRelease 6 = .ok (.iconst 0, 1) := by decide +kernel
theorem d_Rc_nextToRelease_7 : decode b_Rc_nextToRelease 7 = .ok (.istore_n 3, 1) := by decide +kernel
theorem d_Rc_nextToRelease_8 : decode b_Rc_nextToRelease 8 = .ok (.iload_n 3, 1) := by decide +kernel
theorem d_Rc_nextToRelease_9 : decode b_Rc_nextToRelease 9 = .ok (.aload_n 0, 1) := by decide +kernel
theorem d_Rc_nextToRelease_10 : decode b_Rc_nextToRelease 10 = .ok (.getfield 20, 3) := by decide +kernel
theorem d_Rc_nextToRelease_13 : decode b_Rc_nextToRelease 13 = .ok (.invokevirtual 95, 3) := by decide +kernel
theorem d_Rc_nextToRelease_16 : decode b_Rc_nextToRelease 16 = .ok (.if_icmp .ge 45, 3) := by decide +kernel
theorem d_Rc_nextToRelease_19 : decode b_Rc_nextToRelease 19 = .ok (.aload_n 0, 1) := by decide +kernel
theorem d_Rc_nextToRelease_20 : decode b_Rc_nextToRelease 20 = .ok (.getfield 20, 3) := by decide +kernel
theorem d_Rc_nextToRelease_23 : decode b_Rc_nextToRelease 23 = .ok (.iload_n 3, 1) := by decide +kernel
theorem d_Rc_nextToRelease_24 : decode b_Rc_nextToRelease 24 = .ok (.invokevirtual 137, 3) := by decide +kernel
theorem d_Rc_nextToRelease_27 : decode b_Rc_nextToRelease 27 = .ok (.checkcast 64, 3) := by decide +kernel
theorem d_Rc_nextToRelease_30 : decode b_Rc_nextToRelease 30 = .ok (.invokevirtual 75, 3) := by decide +kernel
theorem d_Rc_nextToRelease_33 : decode b_Rc_nextToRelease 33 = .ok (.istore 4, 2) := by decide +kernel
theorem d_Rc_nextToRelease_35 : decode b_Rc_nextToRelease 35 = .ok (.iload 4, 2) := by decide +kernel
theorem d_Rc_nextToRelease_37 : decode b_Rc_nextToRelease 37 = .ok (.iload_n 2, 1) := by decide +kernel
theorem d_Rc_nextToRelease_38 : decode b_Rc_nextToRelease 38 = .ok (.if_icmp .ge 17, 3) := by decide +kernel
theorem d_Rc_nextToRelease_41 : decode b_Rc_nextToRelease 41 = .ok (.aload_n 0, 1) := by decide +kernel
theorem d_Rc_nextToRelease_42 : decode b_Rc_nextToRelease 42 = .ok (.iload 4, 2) := by decide +kernel
theorem d_Rc_nextToRelease_44 : decode b_Rc_nextToRelease 44 = .ok (.invokevirtual 88, 3) := by decide +kernel
theorem d_Rc_nextToRelease_47 : decode b_Rc_nextToRelease 47 = .ok (.ifCond .eq 8, 3) := by decide +kernel
theorem d_Rc_nextToRelease_50 : decode b_Rc_nextToRelease 50 = .ok (.iload_n 3, 1) := by decide +kernel
theorem d_Rc_nextToRelease_51 : decode b_Rc_nextToRelease 51 = .ok (.istore_n 1, 1) := by decide +kernel
theorem d_Rc_nextToRelease_52 : decode b_Rc_nextToRelease 52 = .ok (.iload 4, 2) := by decide +kernel
theorem d_Rc_nextToRelease_54 : decode b_Rc_nextToRelease 54 = .ok (.istore_n 2, 1) := by decide +kernel
theorem d_Rc_nextToRelease_55 : decode b_Rc_nextToRelease 55 = .ok (.iinc 3 1, 3) := by decide +kernel
theorem d_Rc_nextToRelease_58 : decode b_Rc_nextToRelease 58 = .ok (.goto (-50), 3) := by decide +kernel
theorem d_Rc_nextToRelease_61 : decode b_Rc_nextToRelease 61 = .ok (.iload_n 1, 1) := by decide +kernel
theorem d_Rc_nextToRelease_62 : decode b_Rc_nextToRelease 62 = .ok (.ireturn, 1) := by decide +kernel
theorem d_Rc_letGo_0 : decode b_Rc_letGo 0 = .ok (.aload_n 0, 1) := by decide +kernel
theorem d_Rc_letGo_1 : decode b_Rc_letGo 1 = .ok (.dup, 1) := by decide +kernel
theorem d_Rc_letGo_2 : decode b_Rc_letGo 2 = .ok (.getfield 52, 3) := by decide +kernel
theorem d_Rc_letGo_5 : decode b_Rc_letGo 5 = .ok (.iconst 1, 1) := by decide +kernel
theorem d_Rc_letGo_6 : decode b_Rc_letGo 6 = .ok (.iadd, 1) := by decide +kernel
theorem d_Rc_letGo_7 : decode b_Rc_letGo 7 = .ok (.putfield 52, 3) := by decide +kernel
theorem d_Rc_letGo_10 : decode b_Rc_letGo 10 = .ok (.aload_n 0, 1) := by decide +kernel
theorem d_Rc_letGo_11 : decode b_Rc_letGo 11 = .ok (.getfield 24, 3) := by decide +kernel
theorem d_Rc_letGo_14 : decode b_Rc_letGo 14 = .ok (.invokevirtual 95, 3) := by decide +kernel
theorem d_Rc_letGo_17 : decode b_Rc_letGo 17 = .ok (.bipush 100, 2) := by decide +kernel
theorem d_Rc_letGo_19 : decode b_Rc_letGo 19 = .ok (.if_icmp .ge 12, 3) := by decide +kernel
theorem d_Rc_letGo_22 : decode b_Rc_letGo 22 = .ok (.aload_n 0, 1) := by decide +kernel
theorem d_Rc_letGo_23 : decode b_Rc_letGo 23 = .ok (.getfield 24, 3) := by decide +kernel
theorem d_Rc_letGo_26 : decode b_Rc_letGo 26 = .ok (.aload_n 1, 1) := by decide +kernel
theorem d_Rc_letGo_27 : decode b_Rc_letGo 27 = .ok (.invokevirtual 98, 3) := by decide +kernel
theorem d_Rc_letGo_30 : decode b_Rc_letGo 30 = .ok (.pop, 1) := by decide +kernel
theorem d_Rc_letGo_31 : decode b_Rc_letGo 31 = .ok (.aload_n 1, 1) := by decide +kernel
theorem d_Rc_letGo_32 : decode b_Rc_letGo 32 = .ok (.invokevirtual 75, 3) := by decide +kernel
theorem d_Rc_letGo_35 : decode b_Rc_letGo 35 = .ok (.invokestatic 105, 3) := by decide +kernel
theorem d_Rc_letGo_38 : decode b_Rc_letGo 38 = .ok (.iconst 1, 1) := by decide +kernel
theorem d_Rc_letGo_39 : decode b_Rc_letGo 39 = .ok (.iadd, 1) := by decide +kernel
theorem d_Rc_letGo_40 : decode b_Rc_letGo 40 = .ok (.istore_n 2, 1) := by decide +kernel
theorem d_Rc_letGo_41 : decode b_Rc_letGo 41 = .ok (.aload_n 1, 1) := by decide +kernel
theorem d_Rc_letGo_42 : decode b_Rc_letGo 42 = .ok (.invokevirtual 167, 3) := by decide +kernel
theorem d_Rc_letGo_45 : decode b_Rc_letGo 45 = .ok (.iconst 1, 1) := by decide +kernel
theorem d_Rc_letGo_46 : decode b_Rc_letGo 46 = .ok (.if_icmp .ne 36, 3) := by decide +kernel
theorem d_Rc_letGo_49 : decode b_Rc_letGo 49 = .ok (.iload_n 2, 1) := by decide +kernel
theorem d_Rc_letGo_50 : decode b_Rc_letGo 50 = .ok (.bipush 8, 2) := by decide +kernel
theorem d_Rc_letGo_52 : decode b_Rc_letGo 52 = .ok (.if_icmp .ge 30, 3) := by decide +kernel
theorem d_Rc_letGo_55 : decode b_Rc_letGo 55 = .ok (.aload_n 0, 1) := by decide +kernel
theorem d_Rc_letGo_56 : decode b_Rc_letGo 56 = .ok (.getfield 11, 3) := by decide +kernel
theorem d_Rc_letGo_59 : decode b_Rc_letGo 59 = .ok (.iload_n 2, 1) := by decide +kernel
theorem d_Rc_letGo_60 : decode b_Rc_letGo 60 = .ok (.aaload, 1) := by decide +kernel
theorem d_Rc_letGo_61 : decode b_Rc_letGo 61 = .ok (.invokevirtual 56, 3) := by decide +kernel
theorem d_Rc_letGo_64 : decode b_Rc_letGo 64 = .ok (.ifCond .ne 18, 3) := by decide +kernel
theorem d_Rc_letGo_67 : decode b_Rc_letGo 67 = .ok (.aload_n 0, 1) := by decide +kernel
theorem d_Rc_letGo_68 : decode b_Rc_letGo 68 = .ok (.getfield 11, 3) := by decide +kernel
theorem d_Rc_letGo_71 : decode b_Rc_letGo 71 = .ok (.iload_n 2, 1) := by decide +kernel
theorem d_Rc_letGo_72 : decode b_Rc_letGo 72 = .ok (.aaload, 1) := by decide +kernel
theorem d_Rc_letGo_73 : decode b_Rc_letGo 73 = .ok (.aload_n 1, 1) := by decide +kernel
theorem d_Rc_letGo_74 : decode b_Rc_letGo 74 = .ok (.getfield 115, 3) := by decide +kernel
theorem d_Rc_letGo_77 : decode b_Rc_letGo 77 = .ok (.bipush 6, 2) := by decide +kernel
theorem d_Rc_letGo_79 : decode b_Rc_letGo 79 = .ok (.invokevirtual 170, 3) := by decide +kernel
theorem d_Rc_letGo_82 : decode b_Rc_letGo 82 = .ok (.return_, 1) := by decide +kernel
theorem d_Rc_releaseAll_0 : decode b_Rc_releaseAll 0 = .ok (.iconst 0, 1) := by decide +kernel
theorem d_Rc_releaseAll_1 : decode b_Rc_releaseAll 1 = .ok (.istore_n 1, 1) := by decide +kernel
theorem d_Rc_releaseAll_2 : decode b_Rc_releaseAll 2 = .ok (.iload_n 1, 1) := by decide +kernel
theorem d_Rc_releaseAll_3 : decode b_Rc_releaseAll 3 = .ok (.bipush 16, 2) := by decide +kernel
theorem d_Rc_releaseAll_5 : decode b_Rc_releaseAll 5 = .ok (.if_icmp .ge 94, 3) := by decide +kernel
theorem d_Rc_releaseAll_8 : decode b_Rc_releaseAll 8 = .ok (.aload_n 0, 1) := by decide +kernel
theorem d_Rc_releaseAll_9 : decode b_Rc_releaseAll 9 = .ok (.invokevirtual 144, 3) := by decide +kernel
theorem d_Rc_releaseAll_12 : decode b_Rc_releaseAll 12 = .ok (.istore_n 2, 1) := by decide +kernel
theorem d_Rc_releaseAll_13 : decode b_Rc_releaseAll 13 = .ok (.iload_n 2, 1) := by decide +kernel
theorem d_Rc_releaseAll_14 : decode b_Rc_releaseAll 14 = .ok (.iconst (-1), 1) := by decide +kernel
theorem d_Rc_releaseAll_15 : decode b_Rc_releaseAll 15 = .ok (.if_icmp .ne 4, 3) := by decide +kernel
theorem d_Rc_releaseAll_18 : decode b_Rc_releaseAll 18 = .ok (.return_, 1) := by decide +kernel
theorem d_Rc_releaseAll_19 : decode b_Rc_releaseAll 19 = .ok (.aload_n 0, 1) := by decide +kernel
theorem d_Rc_releaseAll_20 : decode b_Rc_releaseAll 20 = .ok (.getfield 20, 3) := by decide +kernel
theorem d_Rc_releaseAll_23 : decode b_Rc_releaseAll 23 = .ok (.iload_n 2, 1) := by decide +kernel
theorem d_Rc_releaseAll_24 : decode b_Rc_releaseAll 24 = .ok (.invokevirtual 147, 3) := by decide +kernel
theorem d_Rc_releaseAll_27 : decode b_Rc_releaseAll 27 = .ok (.checkcast 64, 3) := by decide +kernel
theorem d_Rc_releaseAll_30 : decode b_Rc_releaseAll 30 = .ok (.astore_n 3, 1) := by decide +kernel
theorem d_Rc_releaseAll_31 : decode b_Rc_releaseAll 31 = .ok (.aload_n 3, 1) := by decide +kernel
theorem d_Rc_releaseAll_32 : decode b_Rc_releaseAll 32 = .ok (.invokevirtual 75, 3) := by decide +kernel
theorem d_Rc_releaseAll_35 : decode b_Rc_releaseAll 35 = .ok (.istore 4, 2) := by decide +kernel
theorem d_Rc_releaseAll_37 : decode b_Rc_releaseAll 37 = .ok (.aload_n 0, 1) := by decide +kernel
theorem d_Rc_releaseAll_38 : decode b_Rc_releaseAll 38 = .ok (.getfield 11, 3) := by decide +kernel
theorem d_Rc_releaseAll_41 : decode b_Rc_releaseAll 41 = .ok (.iload 4, 2) := by decide +kernel
theorem d_Rc_releaseAll_43 : decode b_Rc_releaseAll 43 = .ok (.invokestatic 105, 3) := by decide +kernel
theorem d_Rc_releaseAll_46 : decode b_Rc_releaseAll 46 = .ok (.aaload, 1) := by decide +kernel
theorem d_Rc_releaseAll_47 : decode b_Rc_releaseAll 47 = .ok (.iload 4, 2) := by decide +kernel
theorem d_Rc_releaseAll_49 : decode b_Rc_releaseAll 49 = .ok (.invokestatic 109, 3) := by decide +kernel
theorem d_Rc_releaseAll_52 : decode b_Rc_releaseAll 52 = .ok (.aload_n 3, 1) := by decide +kernel
theorem d_Rc_releaseAll_53 : decode b_Rc_releaseAll 53 = .ok (.aload_n 0, 1) := by decide +kernel
theorem d_Rc_releaseAll_54 : decode b_Rc_releaseAll 54 = .ok (.getfield 35, 3) := by decide +kernel
theorem d_Rc_releaseAll_57 : decode b_Rc_releaseAll 57 = .ok (.invokevirtual 150, 3) := by decide +kernel
theorem d_Rc_releaseAll_60 : decode b_Rc_releaseAll 60 = .ok (.aload_n 3, 1) := by decide +kernel
theorem d_Rc_releaseAll_61 : decode b_Rc_releaseAll 61 = .ok (.aload_n 0, 1) := by decide +kernel
theorem d_Rc_releaseAll_62 : decode b_Rc_releaseAll 62 = .ok (.getfield 35, 3) := by decide +kernel
theorem d_Rc_releaseAll_65 : decode b_Rc_releaseAll 65 = .ok (.getfield 154, 3) := by decide +kernel
theorem d_Rc_releaseAll_68 : decode b_Rc_releaseAll 68 = .ok (.invokevirtual 159, 3) := by decide +kernel
theorem d_Rc_releaseAll_71 : decode b_Rc_releaseAll 71 = .ok (.ifCond .eq 11, 3) := by decide +kernel
theorem d_Rc_releaseAll_74 : decode b_Rc_releaseAll 74 = .ok (.aload_n 0, 1) := by decide +kernel
theorem d_Rc_releaseAll_75 : decode b_Rc_releaseAll 75 = .ok (.aload_n 3, 1) := by decide +kernel
theorem d_Rc_releaseAll_76 : decode b_Rc_releaseAll 76 = .ok (.invokevirtual 163, 3) := by decide +kernel
theorem d_Rc_releaseAll_79 : decode b_Rc_releaseAll 79 = .ok (.goto 14, 3) := by decide +kernel
theorem d_Rc_releaseAll_82 : decode b_Rc_releaseAll 82 = .ok (.aload_n 0, 1) := by decide +kernel
theorem d_Rc_releaseAll_83 : decode b_Rc_releaseAll 83 = .ok (.getfield 27, 3) := by decide +kernel
theorem d_Rc_releaseAll_86 : decode b_Rc_releaseAll 86 = .ok (.bipush 6, 2) := by decide +kernel
theorem d_Rc_releaseAll_88 : decode b_Rc_releaseAll 88 = .ok (.dup2, 1) := by decide +kernel
theorem d_Rc_releaseAll_89 : decode b_Rc_releaseAll 89 = .ok (.iaload, 1) := by decide +kernel
theorem d_Rc_releaseAll_90 : decode b_Rc_releaseAll 90 = .ok (.iconst 1, 1) := by decide +kernel
theorem d_Rc_releaseAll_91 : decode b_Rc_releaseAll 91 = .ok (.iadd, 1) := by decide +kernel
theorem d_Rc_releaseAll_92 : decode b_Rc_releaseAll 92 = .ok (.iastore, 1) := by decide +kernel
theorem d_Rc_releaseAll_93 : decode b_Rc_releaseAll 93 = .ok (.iinc 1 1, 3) := by decide +kernel
theorem d_Rc_releaseAll_96 : decode b_Rc_releaseAll 96 = .ok (.goto (-94), 3) := by decide +kernel
theorem d_Rc_releaseAll_99 : decode b_Rc_releaseAll 99 = .ok (.return_, 1) := by decide +kernel
theorem d_Rc_take_0 : decode b_Rc_take 0 = .ok (.aload_n 1, 1) := by decide +kernel
theorem d_Rc_take_1 : decode b_Rc_take 1 = .ok (.invokevirtual 63, 3) := by decide +kernel
theorem d_Rc_take_4 : decode b_Rc_take 4 = .ok (.ifCond .eq 5, 3) := by decide +kernel
theorem d_Rc_take_7 : decode b_Rc_take 7 = .ok (.iconst 5, 1) := by decide +kernel
theorem d_Rc_take_8 : decode b_Rc_take 8 = .ok (.ireturn, 1) := by decide +kernel
theorem d_Rc_take_9 : decode b_Rc_take 9 = .ok (.aload_n 0, 1) := by decide +kernel
theorem d_Rc_take_10 : decode b_Rc_take 10 = .ok (.aload_n 1, 1) := by decide +kernel
theorem d_Rc_take_11 : decode b_Rc_take 11 = .ok (.invokevirtual 68, 3) := by decide +kernel
theorem d_Rc_take_14 : decode b_Rc_take 14 = .ok (.ifCond .ne 5, 3) := by decide +kernel
theorem d_Rc_take_17 : decode b_Rc_take 17 = .ok (.iconst 2, 1) := by decide +kernel
theorem d_Rc_take_18 : decode b_Rc_take 18 = .ok (.ireturn, 1) := by decide +kernel
theorem d_Rc_take_19 : decode b_Rc_take 19 = .ok (.aload_n 0, 1) := by decide +kernel
theorem d_Rc_take_20 : decode b_Rc_take 20 = .ok (.invokevirtual 72, 3) := by decide +kernel
theorem d_Rc_take_23 : decode b_Rc_take 23 = .ok (.aload_n 1, 1) := by decide +kernel
theorem d_Rc_take_24 : decode b_Rc_take 24 = .ok (.invokevirtual 75, 3) := by decide +kernel
theorem d_Rc_take_27 : decode b_Rc_take 27 = .ok (.istore_n 2, 1) := by decide +kernel
theorem d_Rc_take_28 : decode b_Rc_take 28 = .ok (.aload_n 0, 1) := by decide +kernel
theorem d_Rc_take_29 : decode b_Rc_take 29 = .ok (.getfield 31, 3) := by decide +kernel
theorem d_Rc_take_32 : decode b_Rc_take 32 = .ok (.iload_n 2, 1) := by decide +kernel
theorem d_Rc_take_33 : decode b_Rc_take 33 = .ok (.aload_n 0, 1) := by decide +kernel
theorem d_Rc_take_34 : decode b_Rc_take 34 = .ok (.getfield 79, 3) := by decide +kernel
theorem d_Rc_take_37 : decode b_Rc_take 37 = .ok (.invokevirtual 82, 3) := by decide +kernel
theorem d_Rc_take_40 : decode b_Rc_take 40 = .ok (.ifCond .ne 11, 3) := by decide +kernel
theorem d_Rc_take_43 : decode b_Rc_take 43 = .ok (.aload_n 0, 1) := by decide +kernel
theorem d_Rc_take_44 : decode b_Rc_take 44 = .ok (.iload_n 2, 1) := by decide +kernel
theorem d_Rc_take_45 : decode b_Rc_take 45 = .ok (.invokevirtual 88, 3) := by decide +kernel
theorem d_Rc_take_48 : decode b_Rc_take 48 = .ok (.ifCond .eq 5, 3) := by decide +kernel
theorem d_Rc_take_51 : decode b_Rc_take 51 = .ok (.iconst 1, 1) := by decide +kernel
theorem d_Rc_take_52 : decode b_Rc_take 52 = .ok (.ireturn, 1) := by decide +kernel
theorem d_Rc_take_53 : decode b_Rc_take 53 = .ok (.aload_n 0, 1) := by decide +kernel
theorem d_Rc_take_54 : decode b_Rc_take 54 = .ok (.aload_n 1, 1) := by decide +kernel
theorem d_Rc_take_55 : decode b_Rc_take 55 = .ok (.invokevirtual 92, 3) := by decide +kernel
theorem d_Rc_take_58 : decode b_Rc_take 58 = .ok (.ifCond .eq 5, 3) := by decide +kernel
theorem d_Rc_take_61 : decode b_Rc_take 61 = .ok (.iconst 3, 1) := by decide +kernel
theorem d_Rc_take_62 : decode b_Rc_take 62 = .ok (.ireturn, 1) := by decide +kernel
theorem d_Rc_take_63 : decode b_Rc_take 63 = .ok (.aload_n 0, 1) := by decide +kernel
theorem d_Rc_take_64 : decode b_Rc_take 64 = .ok (.getfield 20, 3) := by decide +kernel
theorem d_Rc_take_67 : decode b_Rc_take 67 = .ok (.invokevirtual 95, 3) := by decide +kernel
theorem d_Rc_take_70 : decode b_Rc_take 70 = .ok (.bipush 16, 2) := by decide +kernel
theorem d_Rc_take_72 : decode b_Rc_take 72 = .ok (.if_icmp .lt 5, 3) := by decide +kernel
theorem d_Rc_take_75 : decode b_Rc_take 75 = .ok (.iconst 4, 1) := by decide +kernel
theorem d_Rc_take_76 : decode b_Rc_take 76 = .ok (.ireturn, 1) := by decide +kernel
theorem d_Rc_take_77 : decode b_Rc_take 77 = .ok (.aload_n 0, 1) := by decide +kernel
theorem d_Rc_take_78 : decode b_Rc_take 78 = .ok (.getfield 20, 3) := by decide +kernel
theorem d_Rc_take_81 : decode b_Rc_take 81 = .ok (.aload_n 1, 1) := by decide +kernel
theorem d_Rc_take_82 : decode b_Rc_take 82 = .ok (.invokevirtual 98, 3) := by decide +kernel
theorem d_Rc_take_85 : decode b_Rc_take 85 = .ok (.pop, 1) := by decide +kernel
theorem d_Rc_take_86 : decode b_Rc_take 86 = .ok (.iconst 0, 1) := by decide +kernel
theorem d_Rc_take_87 : decode b_Rc_take 87 = .ok (.ireturn, 1) := by decide +kernel
