theorem d_Md_intervalOfCopy_0 : decode b_Md_intervalOfCopy 0 = .ok (.aload_n 0, 1) := by decide +kernel
theorem d_Md_intervalOfCopy_1 : decode b_Md_intervalOfCopy 1 = .ok (.getfield 166, 3) := by decide +kernel
theorem d_Md_intervalOfCopy_4 : decode b_Md_intervalOfCopy 4 = .ok (.iconst 0, 1) := by decide +kernel
theorem d_Md_intervalOfCopy_5 : decode b_Md_intervalOfCopy 5 = .ok (.iaload, 1) := by decide +kernel
theorem d_Md_intervalOfCopy_6 : decode b_Md_intervalOfCopy 6 = .ok (.bipush 24, 2) := by decide +kernel
theorem d_Md_intervalOfCopy_8 : decode b_Md_intervalOfCopy 8 = .ok (.ishl, 1) := by decide +kernel
theorem d_Md_intervalOfCopy_9 : decode b_Md_intervalOfCopy 9 = .ok (.aload_n 0, 1) := by decide +kernel
theorem d_Md_intervalOfCopy_10 : decode b_Md_intervalOfCopy 10 = .ok (.getfield 166, 3) := by decide +kernel
theorem d_Md_intervalOfCopy_13 : decode b_Md_intervalOfCopy 13 = .ok (.iconst 1, 1) := by decide +kernel
theorem d_Md_intervalOfCopy_14 : decode b_Md_intervalOfCopy 14 = .ok (.iaload, 1) := by decide +kernel
theorem d_Md_intervalOfCopy_15 : decode b_Md_intervalOfCopy 15 = .ok (.bipush 16, 2) := by decide +kernel
theorem d_Md_intervalOfCopy_17 : decode b_Md_intervalOfCopy 17 = .ok (.ishl, 1) := by decide +kernel
theorem d_Md_intervalOfCopy_18 : decode b_Md_intervalOfCopy 18 = .ok (.ior, 1) := by decide +kernel
theorem d_Md_intervalOfCopy_19 : decode b_Md_intervalOfCopy 19 = .ok (.aload_n 0, 1) := by decide +kernel
theorem d_Md_intervalOfCopy_20 : decode b_Md_intervalOfCopy 20 = .ok (.getfield 166, 3) := by decide +kernel
theorem d_Md_intervalOfCopy_23 : decode b_Md_intervalOfCopy 23 = .ok (.iconst 2, 1) := by decide +kernel
theorem d_Md_intervalOfCopy_24 : decode b_Md_intervalOfCopy 24 = .ok (.iaload, 1) := by decide +kernel
theorem d_Md_intervalOfCopy_25 : decode b_Md_intervalOfCopy 25 = .ok (.bipush 8, 2) := by decide +kernel
theorem d_Md_intervalOfCopy_27 : decode b_Md_intervalOfCopy 27 = .ok (.ishl, 1) := by decide +kernel
theorem d_Md_intervalOfCopy_28 : decode b_Md_intervalOfCopy 28 = .ok (.ior, 1) := by decide +kernel
theorem d_Md_intervalOfCopy_29 : decode b_Md_intervalOfCopy 29 = .ok (.aload_n 0, 1) := by decide +kernel
theorem d_Md_intervalOfCopy_30 : decode b_Md_intervalOfCopy 30 = .ok (.getfield 166, 3) := by decide +kernel
theorem d_Md_intervalOfCopy_33 : decode b_Md_intervalOfCopy 33 = .ok (.iconst 3, 1) := by decide +kernel
theorem d_Md_intervalOfCopy_34 : decode b_Md_intervalOfCopy 34 = .ok (.iaload, 1) := by decide +kernel
theorem d_Md_intervalOfCopy_35 : decode b_Md_intervalOfCopy 35 = .ok (.ior, 1) := by decide +kernel
theorem d_Md_intervalOfCopy_36 : decode b_Md_intervalOfCopy 36 = .ok (.ireturn, 1) := by decide +kernel
theorem d_Md_isBroken_0 : decode b_Md_isBroken 0 = .ok (.aload_n 0, 1) := by decide +kernel
theorem d_Md_isBroken_1 : decode b_Md_isBroken 1 = .ok (.invokevirtual 259, 3) := by decide +kernel
theorem d_Md_isBroken_4 : decode b_Md_isBroken 4 = .ok (.istore_n 2, 1) := by decide +kernel
theorem d_Md_isBroken_5 : decode b_Md_isBroken 5 = .ok (.iload_n 1, 1) := by decide +kernel
theorem d_Md_isBroken_6 : decode b_Md_isBroken 6 = .ok (.bipush 36, 2) := by decide +kernel
theorem d_Md_isBroken_8 : decode b_Md_isBroken 8 = .ok (.aload_n 0, 1) := by decide +kernel
theorem d_Md_isBroken_9 : decode b_Md_isBroken 9 = .ok (.getfield 166, 3) := by decide +kernel
theorem d_Md_isBroken_12 : decode b_Md_isBroken 12 = .ok (.iconst 5, 1) := by decide +kernel
theorem d_Md_isBroken_13 : decode b_Md_isBroken 13 = .ok (.iaload, 1) := by decide +kernel
theorem d_Md_isBroken_14 : decode b_Md_isBroken 14 = .ok (.iadd, 1) := by decide +kernel
theorem d_Md_isBroken_15 : decode b_Md_isBroken 15 = .ok (.if_icmp .ne 56, 3) := by decide +kernel
theorem d_Md_isBroken_18 : decode b_Md_isBroken 18 = .ok (.aload_n 0, 1) := by decide +kernel
theorem d_Md_isBroken_19 : decode b_Md_isBroken 19 = .ok (.getfield 166, 3) := by decide +kernel
theorem d_Md_isBroken_22 : decode b_Md_isBroken 22 = .ok (.iconst 4, 1) := by decide +kernel
theorem d_Md_isBroken_23 : decode b_Md_isBroken 23 = .ok (.iaload, 1) := by decide +kernel
theorem d_Md_isBroken_24 : decode b_Md_isBroken 24 = .ok (.iconst 1, 1) := by decide +kernel
theorem d_Md_isBroken_25 : decode b_Md_isBroken 25 = .ok (.if_icmp .gt 46, 3) := by decide +kernel
theorem d_Md_isBroken_28 : decode b_Md_isBroken 28 = .ok (.aload_n 0, 1) := by decide +kernel
theorem d_Md_isBroken_29 : decode b_Md_isBroken 29 = .ok (.getfield 166, 3) := by decide +kernel
theorem d_Md_isBroken_32 : decode b_Md_isBroken 32 = .ok (.iconst 5, 1) := by decide +kernel
theorem d_Md_isBroken_33 : decode b_Md_isBroken 33 = .ok (.iaload, 1) := by decide +kernel
theorem d_Md_isBroken_34 : decode b_Md_isBroken 34 = .ok (.bipush 32, 2) := by decide +kernel
theorem d_Md_isBroken_36 : decode b_Md_isBroken 36 = .ok (.if_icmp .gt 35, 3) := by decide +kernel
theorem d_Md_isBroken_39 : decode b_Md_isBroken 39 = .ok (.aload_n 0, 1) := by decide +kernel
theorem d_Md_isBroken_40 : decode b_Md_isBroken 40 = .ok (.getfield 166, 3) := by decide +kernel
theorem d_Md_isBroken_43 : decode b_Md_isBroken 43 = .ok (.iconst 4, 1) := by decide +kernel
theorem d_Md_isBroken_44 : decode b_Md_isBroken 44 = .ok (.iaload, 1) := by decide +kernel
theorem d_Md_isBroken_45 : decode b_Md_isBroken 45 = .ok (.iconst 1, 1) := by decide +kernel
theorem d_Md_isBroken_46 : decode b_Md_isBroken 46 = .ok (.if_icmp .ne 14, 3) := by decide +kernel
theorem d_Md_isBroken_49 : decode b_Md_isBroken 49 = .ok (.aload_n 0, 1) := by decide +kernel
theorem d_Md_isBroken_50 : decode b_Md_isBroken 50 = .ok (.getfield 166, 3) := by decide +kernel
theorem d_Md_isBroken_53 : decode b_Md_isBroken 53 = .ok (.iconst 5, 1) := by decide +kernel
theorem d_Md_isBroken_54 : decode b_Md_isBroken 54 = .ok (.iaload, 1) := by decide +kernel
theorem d_Md_isBroken_55 : decode b_Md_isBroken 55 = .ok (.bipush 20, 2) := by decide +kernel
theorem d_Md_isBroken_57 : decode b_Md_isBroken 57 = .ok (.if_icmp .ne 14, 3) := by decide +kernel
theorem d_Md_isBroken_60 : decode b_Md_isBroken 60 = .ok (.iload_n 2, 1) := by decide +kernel
theorem d_Md_isBroken_61 : decode b_Md_isBroken 61 = .ok (.iconst 1, 1) := by decide +kernel
theorem d_Md_isBroken_62 : decode b_Md_isBroken 62 = .ok (.sipush 512, 3) := by decide +kernel
theorem d_Md_isBroken_65 : decode b_Md_isBroken 65 = .ok (.invokestatic 231, 3) := by decide +kernel
theorem d_Md_isBroken_68 : decode b_Md_isBroken 68 = .ok (.ifCond .ne 7, 3) := by decide +kernel
theorem d_Md_isBroken_71 : decode b_Md_isBroken 71 = .ok (.iconst 1, 1) := by decide +kernel
theorem d_Md_isBroken_72 : decode b_Md_isBroken 72 = .ok (.goto 4, 3) := by decide +kernel
theorem d_Md_isBroken_75 : decode b_Md_isBroken 75 = .ok (.iconst 0, 1) := by decide +kernel
theorem d_Md_isBroken_76 : decode b_Md_isBroken 76 = .ok (.ireturn, 1) := by decide +kernel
theorem d_Md_loadLatest_0 : decode b_Md_loadLatest 0 = .ok (.iconst 0, 1) := by decide +kernel
theorem d_Md_loadLatest_1 : decode b_Md_loadLatest 1 = .ok (.istore_n 2, 1) := by decide +kernel
theorem d_Md_loadLatest_2 : decode b_Md_loadLatest 2 = .ok (.iload_n 2, 1) := by decide +kernel
theorem d_Md_loadLatest_3 : decode b_Md_loadLatest 3 = .ok (.bipush 20, 2) := by decide +kernel
theorem d_Md_loadLatest_5 : decode b_Md_loadLatest 5 = .ok (.if_icmp .ge 26, 3) := by decide +kernel
theorem d_Md_loadLatest_8 : decode b_Md_loadLatest 8 = .ok (.aload_n 0, 1) := by decide +kernel
theorem d_Md_loadLatest_9 : decode b_Md_loadLatest 9 = .ok (.getfield 169, 3) := by decide +kernel
theorem d_Md_loadLatest_12 : decode b_Md_loadLatest 12 = .ok (.iload_n 2, 1) := by decide +kernel
theorem d_Md_loadLatest_13 : decode b_Md_loadLatest 13 = .ok (.aload_n 0, 1) := by decide +kernel
theorem d_Md_loadLatest_14 : decode b_Md_loadLatest 14 = .ok (.getfield 134, 3) := by decide +kernel
theorem d_Md_loadLatest_17 : decode b_Md_loadLatest 17 = .ok (.bipush 20, 2) := by decide +kernel
theorem d_Md_loadLatest_19 : decode b_Md_loadLatest 19 = .ok (.iload_n 1, 1) := by decide +kernel
theorem d_Md_loadLatest_20 : decode b_Md_loadLatest 20 = .ok (.imul, 1) := by decide +kernel
theorem d_Md_loadLatest_21 : decode b_Md_loadLatest 21 = .ok (.iload_n 2, 1) := by decide +kernel
theorem d_Md_loadLatest_22 : decode b_Md_loadLatest 22 = .ok (.iadd, 1) := by decide +kernel
theorem d_Md_loadLatest_23 : decode b_Md_loadLatest 23 = .ok (.iaload, 1) := by decide +kernel
theorem d_Md_loadLatest_24 : decode b_Md_loadLatest 24 = .ok (.iastore, 1) := by decide +kernel
theorem d_Md_loadLatest_25 : decode b_Md_loadLatest 25 = .ok (.iinc 2 1, 3) := by decide +kernel
theorem d_Md_loadLatest_28 : decode b_Md_loadLatest 28 = .ok (.goto (-26), 3) := by decide +kernel
theorem d_Md_loadLatest_31 : decode b_Md_loadLatest 31 = .ok (.return_, 1) := by decide +kernel
theorem d_Md_lookAtKey_0 : decode b_Md_lookAtKey 0 = .ok (.aload_n 0, 1) := by decide +kernel
theorem d_Md_lookAtKey_1 : decode b_Md_lookAtKey 1 = .ok (.invokevirtual 259, 3) := by decide +kernel
theorem d_Md_lookAtKey_4 : decode b_Md_lookAtKey 4 = .ok (.aload_n 0, 1) := by decide +kernel
theorem d_Md_lookAtKey_5 : decode b_Md_lookAtKey 5 = .ok (.getfield 179, 3) := by decide +kernel
theorem d_Md_lookAtKey_8 : decode b_Md_lookAtKey 8 = .ok (.isub, 1) := by decide +kernel
theorem d_Md_lookAtKey_9 : decode b_Md_lookAtKey 9 = .ok (.istore_n 2, 1) := by decide +kernel
theorem d_Md_lookAtKey_10 : decode b_Md_lookAtKey 10 = .ok (.iload_n 2, 1) := by decide +kernel
theorem d_Md_lookAtKey_11 : decode b_Md_lookAtKey 11 = .ok (.iconst 1, 1) := by decide +kernel
theorem d_Md_lookAtKey_12 : decode b_Md_lookAtKey 12 = .ok (.if_icmp .lt 20, 3) := by decide +kernel
theorem d_Md_lookAtKey_15 : decode b_Md_lookAtKey 15 = .ok (.aload_n 0, 1) := by decide +kernel
theorem d_Md_lookAtKey_16 : decode b_Md_lookAtKey 16 = .ok (.getfield 124, 3) := by decide +kernel
theorem d_Md_lookAtKey_19 : decode b_Md_lookAtKey 19 = .ok (.bipush 8, 2) := by decide +kernel
theorem d_Md_lookAtKey_21 : decode b_Md_lookAtKey 21 = .ok (.iload_n 1, 1) := by decide +kernel
theorem d_Md_lookAtKey_22 : decode b_Md_lookAtKey 22 = .ok (.imul, 1) := by decide +kernel
theorem d_Md_lookAtKey_23 : decode b_Md_lookAtKey 23 = .ok (.iload_n 2, 1) := by decide +kernel
theorem d_Md_lookAtKey_24 : decode b_Md_lookAtKey 24 = .ok (.invokestatic 239, 3) := by decide +kernel
theorem d_Md_lookAtKey_27 : decode b_Md_lookAtKey 27 = .ok (.iadd, 1) := by decide +kernel
theorem d_Md_lookAtKey_28 : decode b_Md_lookAtKey 28 = .ok (.baload, 1) := by decide +kernel
theorem d_Md_lookAtKey_29 : decode b_Md_lookAtKey 29 = .ok (.ifCond .ne 5, 3) := by decide +kernel
theorem d_Md_lookAtKey_32 : decode b_Md_lookAtKey 32 = .ok (.iconst 0, 1) := by decide +kernel
theorem d_Md_lookAtKey_33 : decode b_Md_lookAtKey 33 = .ok (.ireturn, 1) := by decide +kernel
theorem d_Md_lookAtKey_34 : decode b_Md_lookAtKey 34 = .ok (.bipush 8, 2) := by decide +kernel
theorem d_Md_lookAtKey_36 : decode b_Md_lookAtKey 36 = .ok (.iload_n 1, 1) := by decide +kernel
theorem d_Md_lookAtKey_37 : decode b_Md_lookAtKey 37 = .ok (.imul, 1) := by decide +kernel
theorem d_Md_lookAtKey_38 : decode b_Md_lookAtKey 38 = .ok (.iload_n 2, 1) := by decide +kernel
theorem d_Md_lookAtKey_39 : decode b_Md_lookAtKey 39 = .ok (.invokestatic 239, 3) := by decide +kernel
theorem d_Md_lookAtKey_42 : decode b_Md_lookAtKey 42 = .ok (.iadd, 1) := by decide +kernel
theorem d_Md_lookAtKey_43 : decode b_Md_lookAtKey 43 = .ok (.istore_n 3, 1) := by decide +kernel
theorem d_Md_lookAtKey_44 : decode b_Md_lookAtKey 44 = .ok (.aload_n 0, 1) := by decide +kernel
theorem d_Md_lookAtKey_45 : decode b_Md_lookAtKey 45 = .ok (.getfield 131, 3) := by decide +kernel
theorem d_Md_lookAtKey_48 : decode b_Md_lookAtKey 48 = .ok (.iload_n 3, 1) := by decide +kernel
theorem d_Md_lookAtKey_49 : decode b_Md_lookAtKey 49 = .ok (.iaload, 1) := by decide +kernel
theorem d_Md_lookAtKey_50 : decode b_Md_lookAtKey 50 = .ok (.istore 4, 2) := by decide +kernel
theorem d_Md_lookAtKey_52 : decode b_Md_lookAtKey 52 = .ok (.bipush 16, 2) := by decide +kernel
theorem d_Md_lookAtKey_54 : decode b_Md_lookAtKey 54 = .ok (.aload_n 0, 1) := by decide +kernel
theorem d_Md_lookAtKey_55 : decode b_Md_lookAtKey 55 = .ok (.getfield 166, 3) := by decide +kernel
theorem d_Md_lookAtKey_58 : decode b_Md_lookAtKey 58 = .ok (.iconst 5, 1) := by decide +kernel
theorem d_Md_lookAtKey_59 : decode b_Md_lookAtKey 59 = .ok (.iaload, 1) := by decide +kernel
theorem d_Md_lookAtKey_60 : decode b_Md_lookAtKey 60 = .ok (.iadd, 1) := by decide +kernel
theorem d_Md_lookAtKey_61 : decode b_Md_lookAtKey 61 = .ok (.istore 5, 2) := by decide +kernel
theorem d_Md_lookAtKey_63 : decode b_Md_lookAtKey 63 = .ok (.iconst 1, 1) := by decide +kernel
theorem d_Md_lookAtKey_64 : decode b_Md_lookAtKey 64 = .ok (.istore 6, 2) := by decide +kernel
theorem d_Md_lookAtKey_66 : decode b_Md_lookAtKey 66 = .ok (.iload_n 2, 1) := by decide +kernel
theorem d_Md_lookAtKey_67 : decode b_Md_lookAtKey 67 = .ok (.iload 4, 2) := by decide +kernel
theorem d_Md_lookAtKey_69 : decode b_Md_lookAtKey 69 = .ok (.if_icmp .le 160, 3) := by decide +kernel
theorem d_Md_lookAtKey_72 : decode b_Md_lookAtKey 72 = .ok (.iconst 0, 1) := by decide +kernel
theorem d_Md_lookAtKey_73 : decode b_Md_lookAtKey 73 = .ok (.istore 7, 2) := by decide +kernel
theorem d_Md_lookAtKey_75 : decode b_Md_lookAtKey 75 = .ok (.iload 7, 2) := by decide +kernel
theorem d_Md_lookAtKey_77 : decode b_Md_lookAtKey 77 = .ok (.bipush 20, 2) := by decide +kernel
theorem d_Md_lookAtKey_79 : decode b_Md_lookAtKey 79 = .ok (.if_icmp .ge 26, 3) := by decide +kernel
theorem d_Md_lookAtKey_82 : decode b_Md_lookAtKey 82 = .ok (.aload_n 0, 1) := by decide +kernel
theorem d_Md_lookAtKey_83 : decode b_Md_lookAtKey 83 = .ok (.getfield 169, 3) := by decide +kernel
theorem d_Md_lookAtKey_86 : decode b_Md_lookAtKey 86 = .ok (.iload 7, 2) := by decide +kernel
theorem d_Md_lookAtKey_88 : decode b_Md_lookAtKey 88 = .ok (.aload_n 0, 1) := by decide +kernel
theorem d_Md_lookAtKey_89 : decode b_Md_lookAtKey 89 = .ok (.getfield 166, 3) := by decide +kernel
theorem d_Md_lookAtKey_92 : decode b_Md_lookAtKey 92 = .ok (.iload 5, 2) := by decide +kernel
theorem d_Md_lookAtKey_94 : decode b_Md_lookAtKey 94 = .ok (.iload 7, 2) := by decide +kernel
theorem d_Md_lookAtKey_96 : decode b_Md_lookAtKey 96 = .ok (.iadd, 1) := by decide +kernel
theorem d_Md_lookAtKey_97 : decode b_Md_lookAtKey 97 = .ok (.iaload, 1) := by decide +kernel
theorem d_Md_lookAtKey_98 : decode b_Md_lookAtKey 98 = .ok (.iastore, 1) := by decide +kernel
theorem d_Md_lookAtKey_99 : decode b_Md_lookAtKey 99 = .ok (.iinc 7 1, 3) := by decide +kernel
theorem d_Md_lookAtKey_102 : decode b_Md_lookAtKey 102 = .ok (.goto (-27), 3) := by decide +kernel
theorem d_Md_lookAtKey_105 : decode b_Md_lookAtKey 105 = .ok (.iload 4, 2) := by decide +kernel
theorem d_Md_lookAtKey_107 : decode b_Md_lookAtKey 107 = .ok (.istore 7, 2) := by decide +kernel
theorem d_Md_lookAtKey_109 : decode b_Md_lookAtKey 109 = .ok (.iload 7, 2) := by decide +kernel
theorem d_Md_lookAtKey_111 : decode b_Md_lookAtKey 111 = .ok (.iload_n 2, 1) := by decide +kernel
theorem d_Md_lookAtKey_112 : decode b_Md_lookAtKey 112 = .ok (.if_icmp .ge 13, 3) := by decide +kernel
theorem d_Md_lookAtKey_115 : decode b_Md_lookAtKey 115 = .ok (.aload_n 0, 1) := by decide +kernel
theorem d_Md_lookAtKey_116 : decode b_Md_lookAtKey 116 = .ok (.invokevirtual 227, 3) := by decide +kernel
theorem d_Md_lookAtKey_119 : decode b_Md_lookAtKey 119 = .ok (.iinc 7 1, 3) := by decide +kernel
theorem d_Md_lookAtKey_122 : decode b_Md_lookAtKey 122 = .ok (.goto (-13), 3) := by decide +kernel
theorem d_Md_lookAtKey_125 : decode b_Md_lookAtKey 125 = .ok (.iconst 0, 1) := by decide +kernel
theorem d_Md_lookAtKey_126 : decode b_Md_lookAtKey 126 = .ok (.istore 7, 2) := by decide +kernel
theorem d_Md_lookAtKey_128 : decode b_Md_lookAtKey 128 = .ok (.iload 7, 2) := by decide +kernel
theorem d_Md_lookAtKey_130 : decode b_Md_lookAtKey 130 = .ok (.bipush 20, 2) := by decide +kernel
theorem d_Md_lookAtKey_132 : decode b_Md_lookAtKey 132 = .ok (.if_icmp .ge 43, 3) := by decide +kernel
theorem d_Md_lookAtKey_135 : decode b_Md_lookAtKey 135 = .ok (.iload 6, 2) := by decide +kernel
theorem d_Md_lookAtKey_137 : decode b_Md_lookAtKey 137 = .ok (.ifCond .eq 29, 3) := by decide +kernel
theorem d_Md_lookAtKey_140 : decode b_Md_lookAtKey 140 = .ok (.aload_n 0, 1) := by decide +kernel
theorem d_Md_lookAtKey_141 : decode b_Md_lookAtKey 141 = .ok (.getfield 169, 3) := by decide +kernel
theorem d_Md_lookAtKey_144 : decode b_Md_lookAtKey 144 = .ok (.iload 7, 2) := by decide +kernel
theorem d_Md_lookAtKey_146 : decode b_Md_lookAtKey 146 = .ok (.iaload, 1) := by decide +kernel
theorem d_Md_lookAtKey_147 : decode b_Md_lookAtKey 147 = .ok (.aload_n 0, 1) := by decide +kernel
theorem d_Md_lookAtKey_148 : decode b_Md_lookAtKey 148 = .ok (.getfield 134, 3) := by decide +kernel
theorem d_Md_lookAtKey_151 : decode b_Md_lookAtKey 151 = .ok (.bipush 20, 2) := by decide +kernel
theorem d_Md_lookAtKey_153 : decode b_Md_lookAtKey 153 = .ok (.iload_n 3, 1) := by decide +kernel
theorem d_Md_lookAtKey_154 : decode b_Md_lookAtKey 154 = .ok (.imul, 1) := by decide +kernel
theorem d_Md_lookAtKey_155 : decode b_Md_lookAtKey 155 = .ok (.iload 7, 2) := by decide +kernel
theorem d_Md_lookAtKey_157 : decode b_Md_lookAtKey 157 = .ok (.iadd, 1) := by decide +kernel
theorem d_Md_lookAtKey_158 : decode b_Md_lookAtKey 158 = .ok (.iaload, 1) := by decide +kernel
theorem d_Md_lookAtKey_159 : decode b_Md_lookAtKey 159 = .ok (.if_icmp .ne 7, 3) := by decide +kernel
theorem d_Md_lookAtKey_162 : decode b_Md_lookAtKey 162 = .ok (.iconst 1, 1) := by decide +kernel
theorem d_Md_lookAtKey_163 : decode b_Md_lookAtKey 163 = .ok (.goto 4, 3) := by decide +kernel
theorem d_Md_lookAtKey_166 : decode b_Md_lookAtKey 166 = .ok (.iconst 0, 1) := by decide +kernel
theorem d_Md_lookAtKey_167 : decode b_Md_lookAtKey 167 = .ok (.istore 6, 2) := by decide +kernel
theorem d_Md_lookAtKey_169 : decode b_Md_lookAtKey 169 = .ok (.iinc 7 1, 3) := by decide +kernel
theorem d_Md_lookAtKey_172 : decode b_Md_lookAtKey 172 = .ok (.goto (-44), 3) := by decide +kernel
theorem d_Md_lookAtKey_175 : decode b_Md_lookAtKey 175 = .ok (.iload 6, 2) := by decide +kernel
theorem d_Md_lookAtKey_177 : decode b_Md_lookAtKey 177 = .ok (.ifCond .ne 5, 3) := by decide +kernel
theorem d_Md_lookAtKey_180 : decode b_Md_lookAtKey 180 = .ok (.iconst 2, 1) := by decide +kernel
theorem d_Md_lookAtKey_181 : decode b_Md_lookAtKey 181 = .ok (.ireturn, 1) := by decide +kernel
theorem d_Md_lookAtKey_182 : decode b_Md_lookAtKey 182 = .ok (.aload_n 0, 1) := by decide +kernel
theorem d_Md_lookAtKey_183 : decode b_Md_lookAtKey 183 = .ok (.getfield 131, 3) := by decide +kernel
theorem d_Md_lookAtKey_186 : decode b_Md_lookAtKey 186 = .ok (.iload_n 3, 1) := by decide +kernel
theorem d_Md_lookAtKey_187 : decode b_Md_lookAtKey 187 = .ok (.iload_n 2, 1) := by decide +kernel
theorem d_Md_lookAtKey_188 : decode b_Md_lookAtKey 188 = .ok (.iastore, 1) := by decide +kernel
theorem d_Md_lookAtKey_189 : decode b_Md_lookAtKey 189 = .ok (.iconst 0, 1) := by decide +kernel
theorem d_Md_lookAtKey_190 : decode b_Md_lookAtKey 190 = .ok (.istore 7, 2) := by decide +kernel
theorem d_Md_lookAtKey_192 : decode b_Md_lookAtKey 192 = .ok (.iload 7, 2) := by decide +kernel
theorem d_Md_lookAtKey_194 : decode b_Md_lookAtKey 194 = .ok (.bipush 20, 2) := by decide +kernel
theorem d_Md_lookAtKey_196 : decode b_Md_lookAtKey 196 = .ok (.if_icmp .ge 31, 3) := by decide +kernel
theorem d_Md_lookAtKey_199 : decode b_Md_lookAtKey 199 = .ok (.aload_n 0, 1) := by decide +kernel
theorem d_Md_lookAtKey_200 : decode b_Md_lookAtKey 200 = .ok (.getfield 134, 3) := by decide +kernel
theorem d_Md_lookAtKey_203 : decode b_Md_lookAtKey 203 = .ok (.bipush 20, 2) := by decide +kernel
theorem d_Md_lookAtKey_205 : decode b_Md_lookAtKey 205 = .ok (.iload_n 3, 1) := by decide +kernel
theorem d_Md_lookAtKey_206 : decode b_Md_lookAtKey 206 = .ok (.imul, 1) := by decide +kernel
theorem d_Md_lookAtKey_207 : decode b_Md_lookAtKey 207 = .ok (.iload 7, 2) := by decide +kernel
theorem d_Md_lookAtKey_209 : decode b_Md_lookAtKey 209 = .ok (.iadd, 1) := by decide +kernel
theorem d_Md_lookAtKey_210 : decode b_Md_lookAtKey 210 = .ok (.aload_n 0, 1) := by decide +kernel
theorem d_Md_lookAtKey_211 : decode b_Md_lookAtKey 211 = .ok (.getfield 166, 3) := by decide +kernel
theorem d_Md_lookAtKey_214 : decode b_Md_lookAtKey 214 = .ok (.iload 5, 2) := by decide +kernel
theorem d_Md_lookAtKey_216 : decode b_Md_lookAtKey 216 = .ok (.iload 7, 2) := by decide +kernel
theorem d_Md_lookAtKey_218 : decode b_Md_lookAtKey 218 = .ok (.iadd, 1) := by decide +kernel
theorem d_Md_lookAtKey_219 : decode b_Md_lookAtKey 219 = .ok (.iaload, 1) := by decide +kernel
theorem d_Md_lookAtKey_220 : decode b_Md_lookAtKey 220 = .ok (.iastore, 1) := by decide +kernel
theorem d_Md_lookAtKey_221 : decode b_Md_lookAtKey 221 = .ok (.iinc 7 1, 3) := by decide +kernel
theorem d_Md_lookAtKey_224 : decode b_Md_lookAtKey 224 = .ok (.goto (-32), 3) := by decide +kernel
theorem d_Md_lookAtKey_227 : decode b_Md_lookAtKey 227 = .ok (.iconst 1, 1) := by decide +kernel
theorem d_Md_lookAtKey_228 : decode b_Md_lookAtKey 228 = .ok (.ireturn, 1) := by decide +kernel
theorem d_Md_lookAtKey_229 : decode b_Md_lookAtKey 229 = .ok (.iload_n 2, 1) := by decide +kernel
theorem d_Md_lookAtKey_230 : decode b_Md_lookAtKey 230 = .ok (.aload_n 0, 1) := by decide +kernel
theorem d_Md_lookAtKey_231 : decode b_Md_lookAtKey 231 = .ok (.getfield 128, 3) := by decide +kernel
theorem d_Md_lookAtKey_234 : decode b_Md_lookAtKey 234 = .ok (.iload_n 3, 1) := by decide +kernel
theorem d_Md_lookAtKey_235 : decode b_Md_lookAtKey 235 = .ok (.iaload, 1) := by decide +kernel
theorem d_Md_lookAtKey_236 : decode b_Md_lookAtKey 236 = .ok (.if_icmp .ge 5, 3) := by decide +kernel
theorem d_Md_lookAtKey_239 : decode b_Md_lookAtKey 239 = .ok (.iconst 0, 1) := by decide +kernel
theorem d_Md_lookAtKey_240 : decode b_Md_lookAtKey 240 = .ok (.ireturn, 1) := by decide +kernel
theorem d_Md_lookAtKey_241 : decode b_Md_lookAtKey 241 = .ok (.aload_n 0, 1) := by decide +kernel
theorem d_Md_lookAtKey_242 : decode b_Md_lookAtKey 242 = .ok (.iload_n 3, 1) := by decide +kernel
theorem d_Md_lookAtKey_243 : decode b_Md_lookAtKey 243 = .ok (.invokevirtual 262, 3) := by decide +kernel
theorem d_Md_lookAtKey_246 : decode b_Md_lookAtKey 246 = .ok (.iload_n 2, 1) := by decide +kernel
theorem d_Md_lookAtKey_247 : decode b_Md_lookAtKey 247 = .ok (.istore 7, 2) := by decide +kernel
theorem d_Md_lookAtKey_249 : decode b_Md_lookAtKey 249 = .ok (.iload 7, 2) := by decide +kernel
theorem d_Md_lookAtKey_251 : decode b_Md_lookAtKey 251 = .ok (.iload 4, 2) := by decide +kernel
theorem d_Md_lookAtKey_253 : decode b_Md_lookAtKey 253 = .ok (.if_icmp .ge 13, 3) := by decide +kernel
theorem d_Md_lookAtKey_256 : decode b_Md_lookAtKey 256 = .ok (.aload_n 0, 1) := by decide +kernel
theorem d_Md_lookAtKey_257 : decode b_Md_lookAtKey 257 = .ok (.invokevirtual 227, 3) := by decide +kernel
theorem d_Md_lookAtKey_260 : decode b_Md_lookAtKey 260 = .ok (.iinc 7 1, 3) := by decide +kernel
theorem d_Md_lookAtKey_263 : decode b_Md_lookAtKey 263 = .ok (.goto (-14), 3) := by decide +kernel
theorem d_Md_lookAtKey_266 : decode b_Md_lookAtKey 266 = .ok (.iconst 0, 1) := by decide +kernel
theorem d_Md_lookAtKey_267 : decode b_Md_lookAtKey 267 = .ok (.istore 7, 2) := by decide +kernel
theorem d_Md_lookAtKey_269 : decode b_Md_lookAtKey 269 = .ok (.iload 7, 2) := by decide +kernel
theorem d_Md_lookAtKey_271 : decode b_Md_lookAtKey 271 = .ok (.bipush 20, 2) := by decide +kernel
theorem d_Md_lookAtKey_273 : decode b_Md_lookAtKey 273 = .ok (.if_icmp .ge 41, 3) := by decide +kernel
theorem d_Md_lookAtKey_276 : decode b_Md_lookAtKey 276 = .ok (.iload 6, 2) := by decide +kernel
theorem d_Md_lookAtKey_278 : decode b_Md_lookAtKey 278 = .ok (.ifCond .eq 27, 3) := by decide +kernel
theorem d_Md_lookAtKey_281 : decode b_Md_lookAtKey 281 = .ok (.aload_n 0, 1) := by decide +kernel
theorem d_Md_lookAtKey_282 : decode b_Md_lookAtKey 282 = .ok (.getfield 169, 3) := by decide +kernel
theorem d_Md_lookAtKey_285 : decode b_Md_lookAtKey 285 = .ok (.iload 7, 2) := by decide +kernel
theorem d_Md_lookAtKey_287 : decode b_Md_lookAtKey 287 = .ok (.iaload, 1) := by decide +kernel
theorem d_Md_lookAtKey_288 : decode b_Md_lookAtKey 288 = .ok (.aload_n 0, 1) := by decide +kernel
theorem d_Md_lookAtKey_289 : decode b_Md_lookAtKey 289 = .ok (.getfield 166, 3) := by decide +kernel
theorem d_Md_lookAtKey_292 : decode b_Md_lookAtKey 292 = .ok (.iload 5, 2) := by decide +kernel
theorem d_Md_lookAtKey_294 : decode b_Md_lookAtKey 294 = .ok (.iload 7, 2) := by decide +kernel
theorem d_Md_lookAtKey_296 : decode b_Md_lookAtKey 296 = .ok (.iadd, 1) := by decide +kernel
theorem d_Md_lookAtKey_297 : decode b_Md_lookAtKey 297 = .ok (.iaload, 1) := by decide +kernel
theorem d_Md_lookAtKey_298 : decode b_Md_lookAtKey 298 = .ok (.if_icmp .ne 7, 3) := by decide +kernel
theorem d_Md_lookAtKey_301 : decode b_Md_lookAtKey 301 = .ok (.iconst 1, 1) := by decide +kernel
theorem d_Md_lookAtKey_302 : decode b_Md_lookAtKey 302 = .ok (.goto 4, 3) := by decide +kernel
theorem d_Md_lookAtKey_305 : decode b_Md_lookAtKey 305 = .ok (.iconst 0, 1) := by decide +kernel
theorem d_Md_lookAtKey_306 : decode b_Md_lookAtKey 306 = .ok (.istore 6, 2) := by decide +kernel
theorem d_Md_lookAtKey_308 : decode b_Md_lookAtKey 308 = .ok (.iinc 7 1, 3) := by decide +kernel
theorem d_Md_lookAtKey_311 : decode b_Md_lookAtKey 311 = .ok (.goto (-42), 3) := by decide +kernel
theorem d_Md_lookAtKey_314 : decode b_Md_lookAtKey 314 = .ok (.iload 6, 2) := by decide +kernel
theorem d_Md_lookAtKey_316 : decode b_Md_lookAtKey 316 = .ok (.ifCond .eq 7, 3) := by decide +kernel
theorem d_Md_lookAtKey_319 : decode b_Md_lookAtKey 319 = .ok (.iconst 0, 1) := by decide +kernel
theorem d_Md_lookAtKey_320 : decode b_Md_lookAtKey 320 = .ok (.goto 4, 3) := by decide +kernel
theorem d_Md_lookAtKey_323 : decode b_Md_lookAtKey 323 = .ok (.iconst 2, 1) := by decide +kernel
theorem d_Md_lookAtKey_324 : decode b_Md_lookAtKey 324 = .ok (.ireturn, 1) := by decide +kernel
theorem d_Md_heldAt_0 : decode b_Md_heldAt 0 = .ok (.bipush 68, 2) := by decide +kernel
theorem d_Md_heldAt_2 : decode b_Md_heldAt 2 = .ok (.bipush 16, 2) := by decide +kernel
theorem d_Md_heldAt_4 : decode b_Md_heldAt 4 = .ok (.iload_n 1, 1) := by decide +kernel
theorem d_Md_heldAt_5 : decode b_Md_heldAt 5 = .ok (.imul, 1) := by decide +kernel
theorem d_Md_heldAt_6 : decode b_Md_heldAt 6 = .ok (.iload_n 2, 1) := by decide +kernel
theorem d_Md_heldAt_7 : decode b_Md_heldAt 7 = .ok (.iadd, 1) := by decide +kernel
theorem d_Md_heldAt_8 : decode b_Md_heldAt 8 = .ok (.imul, 1) := by decide +kernel
theorem d_Md_heldAt_9 : decode b_Md_heldAt 9 = .ok (.ireturn, 1) := by decide +kernel
theorem d_Md_heldInterval_0 : decode b_Md_heldInterval 0 = .ok (.aload_n 0, 1) := by decide +kernel
theorem d_Md_heldInterval_1 : decode b_Md_heldInterval 1 = .ok (.iload_n 1, 1) := by decide +kernel
theorem d_Md_heldInterval_2 : decode b_Md_heldInterval 2 = .ok (.iload_n 2, 1) := by decide +kernel
theorem d_Md_heldInterval_3 : decode b_Md_heldInterval 3 = .ok (.invokevirtual 265, 3) := by decide +kernel
theorem d_Md_heldInterval_6 : decode b_Md_heldInterval 6 = .ok (.istore_n 3, 1) := by decide +kernel
theorem d_Md_heldInterval_7 : decode b_Md_heldInterval 7 = .ok (.aload_n 0, 1) := by decide +kernel
theorem d_Md_heldInterval_8 : decode b_Md_heldInterval 8 = .ok (.getfield 146, 3) := by decide +kernel
theorem d_Md_heldInterval_11 : decode b_Md_heldInterval 11 = .ok (.iload_n 3, 1) := by decide +kernel
theorem d_Md_heldInterval_12 : decode b_Md_heldInterval 12 = .ok (.iaload, 1) := by decide +kernel
theorem d_Md_heldInterval_13 : decode b_Md_heldInterval 13 = .ok (.bipush 24, 2) := by decide +kernel
theorem d_Md_heldInterval_15 : decode b_Md_heldInterval 15 = .ok (.ishl, 1) := by decide +kernel
theorem d_Md_heldInterval_16 : decode b_Md_heldInterval 16 = .ok (.aload_n 0, 1) := by decide +kernel
theorem d_Md_heldInterval_17 : decode b_Md_heldInterval 17 = .ok (.getfield 146, 3) := by decide +kernel
theorem d_Md_heldInterval_20 : decode b_Md_heldInterval 20 = .ok (.iload_n 3, 1) := by decide +kernel
theorem d_Md_heldInterval_21 : decode b_Md_heldInterval 21 = .ok (.iconst 1, 1) := by decide +kernel
theorem d_Md_heldInterval_22 : decode b_Md_heldInterval 22 = .ok (.iadd, 1) := by decide +kernel
theorem d_Md_heldInterval_23 : decode b_Md_heldInterval 23 = .ok (.iaload, 1) := by decide +kernel
theorem d_Md_heldInterval_24 : decode b_Md_heldInterval 24 = .ok (.bipush 16, 2) := by decide +kernel
theorem d_Md_heldInterval_26 : decode b_Md_heldInterval 26 = .ok (.ishl, 1) := by decide +kernel
theorem d_Md_heldInterval_27 : decode b_Md_heldInterval 27 = .ok (.ior, 1) := by decide +kernel
theorem d_Md_heldInterval_28 : decode b_Md_heldInterval 28 = .ok (.aload_n 0, 1) := by decide +kernel
theorem d_Md_heldInterval_29 : decode b_Md_heldInterval 29 = .ok (.getfield 146, 3) := by decide +kernel
theorem d_Md_heldInterval_32 : decode b_Md_heldInterval 32 = .ok (.iload_n 3, 1) := by decide +kernel
theorem d_Md_heldInterval_33 : decode b_Md_heldInterval 33 = .ok (.iconst 2, 1) := by decide +kernel
theorem d_Md_heldInterval_34 : decode b_Md_heldInterval 34 = .ok (.iadd, 1) := by decide +kernel
theorem d_Md_heldInterval_35 : decode b_Md_heldInterval 35 = .ok (.iaload, 1) := by decide +kernel
theorem d_Md_heldInterval_36 : decode b_Md_heldInterval 36 = .ok (.bipush 8, 2) := by decide +kernel
theorem d_Md_heldInterval_38 : decode b_Md_heldInterval 38 = .ok (.ishl, 1) := by decide +kernel
theorem d_Md_heldInterval_39 : decode b_Md_heldInterval 39 = .ok (.ior, 1) := by decide +kernel
theorem d_Md_heldInterval_40 : decode b_Md_heldInterval 40 = .ok (.aload_n 0, 1) := by decide +kernel
theorem d_Md_heldInterval_41 : decode b_Md_heldInterval 41 = .ok (.getfield 146, 3) := by decide +kernel
theorem d_Md_heldInterval_44 : decode b_Md_heldInterval 44 = .ok (.iload_n 3, 1) := by decide +kernel
theorem d_Md_heldInterval_45 : decode b_Md_heldInterval 45 = .ok (.iconst 3, 1) := by decide +kernel
theorem d_Md_heldInterval_46 : decode b_Md_heldInterval 46 = .ok (.iadd, 1) := by decide +kernel
theorem d_Md_heldInterval_47 : decode b_Md_heldInterval 47 = .ok (.iaload, 1) := by decide +kernel
theorem d_Md_heldInterval_48 : decode b_Md_heldInterval 48 = .ok (.ior, 1) := by decide +kernel
theorem d_Md_heldInterval_49 : decode b_Md_heldInterval 49 = .ok (.ireturn, 1) := by decide +kernel
theorem d_Md_isDue_0 : decode b_Md_isDue 0 = .ok (.aload_n 0, 1) := by decide +kernel
theorem d_Md_isDue_1 : decode b_Md_isDue 1 = .ok (.iload_n 1, 1) := by decide +kernel
theorem d_Md_isDue_2 : decode b_Md_isDue 2 = .ok (.iload_n 2, 1) := by decide +kernel
theorem d_Md_isDue_3 : decode b_Md_isDue 3 = .ok (.invokevirtual 268, 3) := by decide +kernel
theorem d_Md_isDue_6 : decode b_Md_isDue 6 = .ok (.istore_n 3, 1) := by decide +kernel
theorem d_Md_isDue_7 : decode b_Md_isDue 7 = .ok (.bipush 8, 2) := by decide +kernel
theorem d_Md_isDue_9 : decode b_Md_isDue 9 = .ok (.iload_n 1, 1) := by decide +kernel
theorem d_Md_isDue_10 : decode b_Md_isDue 10 = .ok (.imul, 1) := by decide +kernel
theorem d_Md_isDue_11 : decode b_Md_isDue 11 = .ok (.iload_n 3, 1) := by decide +kernel
theorem d_Md_isDue_12 : decode b_Md_isDue 12 = .ok (.invokestatic 239, 3) := by decide +kernel
theorem d_Md_isDue_15 : decode b_Md_isDue 15 = .ok (.iadd, 1) := by decide +kernel
theorem d_Md_isDue_16 : decode b_Md_isDue 16 = .ok (.istore 4, 2) := by decide +kernel
theorem d_Md_isDue_18 : decode b_Md_isDue 18 = .ok (.aload_n 0, 1) := by decide +kernel
theorem d_Md_isDue_19 : decode b_Md_isDue 19 = .ok (.getfield 124, 3) := by decide +kernel
theorem d_Md_isDue_22 : decode b_Md_isDue 22 = .ok (.iload 4, 2) := by decide +kernel
theorem d_Md_isDue_24 : decode b_Md_isDue 24 = .ok (.baload, 1) := by decide +kernel
theorem d_Md_isDue_25 : decode b_Md_isDue 25 = .ok (.ifCond .eq 18, 3) := by decide +kernel
theorem d_Md_isDue_28 : decode b_Md_isDue 28 = .ok (.aload_n 0, 1) := by decide +kernel
theorem d_Md_isDue_29 : decode b_Md_isDue 29 = .ok (.getfield 131, 3) := by decide +kernel
theorem d_Md_isDue_32 : decode b_Md_isDue 32 = .ok (.iload 4, 2) := by decide +kernel
theorem d_Md_isDue_34 : decode b_Md_isDue 34 = .ok (.iaload, 1) := by decide +kernel
theorem d_Md_isDue_35 : decode b_Md_isDue 35 = .ok (.iload_n 3, 1) := by decide +kernel
theorem d_Md_isDue_36 : decode b_Md_isDue 36 = .ok (.if_icmp .lt 7, 3) := by decide +kernel
theorem d_Md_isDue_39 : decode b_Md_isDue 39 = .ok (.iconst 1, 1) := by decide +kernel
theorem d_Md_isDue_40 : decode b_Md_isDue 40 = .ok (.goto 4, 3) := by decide +kernel
theorem d_Md_isDue_43 : decode b_Md_isDue 43 = .ok (.iconst 0, 1) := by decide +kernel
theorem d_Md_isDue_44 : decode b_Md_isDue 44 = .ok (.ireturn, 1) := by decide +kernel
theorem d_Md_keep_0 : decode b_Md_keep 0 = .ok (.sipush 1024, 3) := by decide +kernel
theorem d_Md_keep_3 : decode b_Md_keep 3 = .ok (.iload_n 1, 1) := by decide +kernel
theorem d_Md_keep_4 : decode b_Md_keep 4 = .ok (.imul, 1) := by decide +kernel
theorem d_Md_keep_5 : decode b_Md_keep 5 = .ok (.aload_n 0, 1) := by decide +kernel
theorem d_Md_keep_6 : decode b_Md_keep 6 = .ok (.getfield 149, 3) := by decide +kernel
theorem d_Md_keep_9 : decode b_Md_keep 9 = .ok (.iload_n 1, 1) := by decide +kernel
theorem d_Md_keep_10 : decode b_Md_keep 10 = .ok (.iaload, 1) := by decide +kernel
theorem d_Md_keep_11 : decode b_Md_keep 11 = .ok (.iadd, 1) := by decide +kernel
theorem d_Md_keep_12 : decode b_Md_keep 12 = .ok (.istore 4, 2) := by decide +kernel
theorem d_Md_keep_14 : decode b_Md_keep 14 = .ok (.aload_n 0, 1) := by decide +kernel
theorem d_Md_keep_15 : decode b_Md_keep 15 = .ok (.getfield 152, 3) := by decide +kernel
theorem d_Md_keep_18 : decode b_Md_keep 18 = .ok (.iload 4, 2) := by decide +kernel
theorem d_Md_keep_20 : decode b_Md_keep 20 = .ok (.iload_n 2, 1) := by decide +kernel
theorem d_Md_keep_21 : decode b_Md_keep 21 = .ok (.iastore, 1) := by decide +kernel
theorem d_Md_keep_22 : decode b_Md_keep 22 = .ok (.iconst 0, 1) := by decide +kernel
theorem d_Md_keep_23 : decode b_Md_keep 23 = .ok (.istore 5, 2) := by decide +kernel
theorem d_Md_keep_25 : decode b_Md_keep 25 = .ok (.iload 5, 2) := by decide +kernel
theorem d_Md_keep_27 : decode b_Md_keep 27 = .ok (.bipush 10, 2) := by decide +kernel
theorem d_Md_keep_29 : decode b_Md_keep 29 = .ok (.if_icmp .ge 34, 3) := by decide +kernel
theorem d_Md_keep_32 : decode b_Md_keep 32 = .ok (.aload_n 0, 1) := by decide +kernel
theorem d_Md_keep_33 : decode b_Md_keep 33 = .ok (.getfield 156, 3) := by decide +kernel
theorem d_Md_keep_36 : decode b_Md_keep 36 = .ok (.bipush 10, 2) := by decide +kernel
theorem d_Md_keep_38 : decode b_Md_keep 38 = .ok (.iload 4, 2) := by decide +kernel
theorem d_Md_keep_40 : decode b_Md_keep 40 = .ok (.imul, 1) := by decide +kernel
theorem d_Md_keep_41 : decode b_Md_keep 41 = .ok (.iload 5, 2) := by decide +kernel
theorem d_Md_keep_43 : decode b_Md_keep 43 = .ok (.iadd, 1) := by decide +kernel
theorem d_Md_keep_44 : decode b_Md_keep 44 = .ok (.aload_n 0, 1) := by decide +kernel
theorem d_Md_keep_45 : decode b_Md_keep 45 = .ok (.getfield 166, 3) := by decide +kernel
theorem d_Md_keep_48 : decode b_Md_keep 48 = .ok (.bipush 6, 2) := by decide +kernel
theorem d_Md_keep_50 : decode b_Md_keep 50 = .ok (.iload_n 3, 1) := by decide +kernel
theorem d_Md_keep_51 : decode b_Md_keep 51 = .ok (.iadd, 1) := by decide +kernel
theorem d_Md_keep_52 : decode b_Md_keep 52 = .ok (.iload 5, 2) := by decide +kernel
theorem d_Md_keep_54 : decode b_Md_keep 54 = .ok (.iadd, 1) := by decide +kernel
theorem d_Md_keep_55 : decode b_Md_keep 55 = .ok (.iaload, 1) := by decide +kernel
theorem d_Md_keep_56 : decode b_Md_keep 56 = .ok (.iastore, 1) := by decide +kernel
theorem d_Md_keep_57 : decode b_Md_keep 57 = .ok (.iinc 5 1, 3) := by decide +kernel
theorem d_Md_keep_60 : decode b_Md_keep 60 = .ok (.goto (-35), 3) := by decide +kernel
theorem d_Md_keep_63 : decode b_Md_keep 63 = .ok (.aload_n 0, 1) := by decide +kernel
theorem d_Md_keep_64 : decode b_Md_keep 64 = .ok (.getfield 149, 3) := by decide +kernel
theorem d_Md_keep_67 : decode b_Md_keep 67 = .ok (.iload_n 1, 1) := by decide +kernel
theorem d_Md_keep_68 : decode b_Md_keep 68 = .ok (.iaload, 1) := by decide +kernel
theorem d_Md_keep_69 : decode b_Md_keep 69 = .ok (.bipush 100, 2) := by decide +kernel
theorem d_Md_keep_71 : decode b_Md_keep 71 = .ok (.if_icmp .ge 70, 3) := by decide +kernel
theorem d_Md_keep_74 : decode b_Md_keep 74 = .ok (.aload_n 0, 1) := by decide +kernel
theorem d_Md_keep_75 : decode b_Md_keep 75 = .ok (.getfield 159, 3) := by decide +kernel
theorem d_Md_keep_78 : decode b_Md_keep 78 = .ok (.bipush 100, 2) := by decide +kernel
theorem d_Md_keep_80 : decode b_Md_keep 80 = .ok (.iload_n 1, 1) := by decide +kernel
theorem d_Md_keep_81 : decode b_Md_keep 81 = .ok (.imul, 1) := by decide +kernel
theorem d_Md_keep_82 : decode b_Md_keep 82 = .ok (.aload_n 0, 1) := by decide +kernel
theorem d_Md_keep_83 : decode b_Md_keep 83 = .ok (.getfield 149, 3) := by decide +kernel
theorem d_Md_keep_86 : decode b_Md_keep 86 = .ok (.iload_n 1, 1) := by decide +kernel
theorem d_Md_keep_87 : decode b_Md_keep 87 = .ok (.iaload, 1) := by decide +kernel
theorem d_Md_keep_88 : decode b_Md_keep 88 = .ok (.iadd, 1) := by decide +kernel
theorem d_Md_keep_89 : decode b_Md_keep 89 = .ok (.bipush 36, 2) := by decide +kernel
theorem d_Md_keep_91 : decode b_Md_keep 91 = .ok (.iload_n 3, 1) := by decide +kernel
theorem d_Md_keep_92 : decode b_Md_keep 92 = .ok (.iadd, 1) := by decide +kernel
theorem d_Md_keep_93 : decode b_Md_keep 93 = .ok (.iastore, 1) := by decide +kernel
theorem d_Md_keep_94 : decode b_Md_keep 94 = .ok (.iconst 0, 1) := by decide +kernel
theorem d_Md_keep_95 : decode b_Md_keep 95 = .ok (.istore 5, 2) := by decide +kernel
theorem d_Md_keep_97 : decode b_Md_keep 97 = .ok (.iload 5, 2) := by decide +kernel
theorem d_Md_keep_99 : decode b_Md_keep 99 = .ok (.bipush 36, 2) := by decide +kernel
theorem d_Md_keep_101 : decode b_Md_keep 101 = .ok (.iload_n 3, 1) := by decide +kernel
theorem d_Md_keep_102 : decode b_Md_keep 102 = .ok (.iadd, 1) := by decide +kernel
theorem d_Md_keep_103 : decode b_Md_keep 103 = .ok (.if_icmp .ge 38, 3) := by decide +kernel
theorem d_Md_keep_106 : decode b_Md_keep 106 = .ok (.aload_n 0, 1) := by decide +kernel
theorem d_Md_keep_107 : decode b_Md_keep 107 = .ok (.getfield 163, 3) := by decide +kernel
theorem d_Md_keep_110 : decode b_Md_keep 110 = .ok (.bipush 68, 2) := by decide +kernel
theorem d_Md_keep_112 : decode b_Md_keep 112 = .ok (.bipush 100, 2) := by decide +kernel
theorem d_Md_keep_114 : decode b_Md_keep 114 = .ok (.iload_n 1, 1) := by decide +kernel
theorem d_Md_keep_115 : decode b_Md_keep 115 = .ok (.imul, 1) := by decide +kernel
theorem d_Md_keep_116 : decode b_Md_keep 116 = .ok (.aload_n 0, 1) := by decide +kernel
theorem d_Md_keep_117 : decode b_Md_keep 117 = .ok (.getfield 149, 3) := by decide +kernel
theorem d_Md_keep_120 : decode b_Md_keep 120 = .ok (.iload_n 1, 1) := by decide +kernel
theorem d_Md_keep_121 : decode b_Md_keep 121 = .ok (.iaload, 1) := by decide +kernel
theorem d_Md_keep_122 : decode b_Md_keep 122 = .ok (.iadd, 1) := by decide +kernel
theorem d_Md_keep_123 : decode b_Md_keep 123 = .ok (.imul, 1) := by decide +kernel
theorem d_Md_keep_124 : decode b_Md_keep 124 = .ok (.iload 5, 2) := by decide +kernel
theorem d_Md_keep_126 : decode b_Md_keep 126 = .ok (.iadd, 1) := by decide +kernel
theorem d_Md_keep_127 : decode b_Md_keep 127 = .ok (.aload_n 0, 1) := by decide +kernel
theorem d_Md_keep_128 : decode b_Md_keep 128 = .ok (.getfield 166, 3) := by decide +kernel
theorem d_Md_keep_131 : decode b_Md_keep 131 = .ok (.iload 5, 2) := by decide +kernel
theorem d_Md_keep_133 : decode b_Md_keep 133 = .ok (.iaload, 1) := by decide +kernel
theorem d_Md_keep_134 : decode b_Md_keep 134 = .ok (.iastore, 1) := by decide +kernel
theorem d_Md_keep_135 : decode b_Md_keep 135 = .ok (.iinc 5 1, 3) := by decide +kernel
theorem d_Md_keep_138 : decode b_Md_keep 138 = .ok (.goto (-41), 3) := by decide +kernel
theorem d_Md_keep_141 : decode b_Md_keep 141 = .ok (.aload_n 0, 1) := by decide +kernel
theorem d_Md_keep_142 : decode b_Md_keep 142 = .ok (.getfield 149, 3) := by decide +kernel
theorem d_Md_keep_145 : decode b_Md_keep 145 = .ok (.iload_n 1, 1) := by decide +kernel
theorem d_Md_keep_146 : decode b_Md_keep 146 = .ok (.dup2, 1) := by decide +kernel
theorem d_Md_keep_147 : decode b_Md_keep 147 = .ok (.iaload, 1) := by decide +kernel
theorem d_Md_keep_148 : decode b_Md_keep 148 = .ok (.iconst 1, 1) := by decide +kernel
theorem d_Md_keep_149 : decode b_Md_keep 149 = .ok (.iadd, 1) := by decide +kernel
theorem d_Md_keep_150 : decode b_Md_keep 150 = .ok (.iastore, 1) := by decide +kernel
theorem d_Md_keep_151 : decode b_Md_keep 151 = .ok (.return_, 1) := by decide +kernel
theorem d_Md_goOut_0 : decode b_Md_goOut 0 = .ok (.aload_n 0, 1) := by decide +kernel
theorem d_Md_goOut_1 : decode b_Md_goOut 1 = .ok (.getfield 143, 3) := by decide +kernel
theorem d_Md_goOut_4 : decode b_Md_goOut 4 = .ok (.bipush 16, 2) := by decide +kernel
theorem d_Md_goOut_6 : decode b_Md_goOut 6 = .ok (.iload_n 1, 1) := by decide +kernel
theorem d_Md_goOut_7 : decode b_Md_goOut 7 = .ok (.imul, 1) := by decide +kernel
theorem d_Md_goOut_8 : decode b_Md_goOut 8 = .ok (.iload_n 2, 1) := by decide +kernel
theorem d_Md_goOut_9 : decode b_Md_goOut 9 = .ok (.iadd, 1) := by decide +kernel
theorem d_Md_goOut_10 : decode b_Md_goOut 10 = .ok (.iaload, 1) := by decide +kernel
theorem d_Md_goOut_11 : decode b_Md_goOut 11 = .ok (.istore_n 3, 1) := by decide +kernel
theorem d_Md_goOut_12 : decode b_Md_goOut 12 = .ok (.iconst 0, 1) := by decide +kernel
theorem d_Md_goOut_13 : decode b_Md_goOut 13 = .ok (.istore 4, 2) := by decide +kernel
theorem d_Md_goOut_15 : decode b_Md_goOut 15 = .ok (.iload 4, 2) := by decide +kernel
theorem d_Md_goOut_17 : decode b_Md_goOut 17 = .ok (.iload_n 3, 1) := by decide +kernel
theorem d_Md_goOut_18 : decode b_Md_goOut 18 = .ok (.if_icmp .ge 30, 3) := by decide +kernel
theorem d_Md_goOut_21 : decode b_Md_goOut 21 = .ok (.aload_n 0, 1) := by decide +kernel
theorem d_Md_goOut_22 : decode b_Md_goOut 22 = .ok (.getfield 166, 3) := by decide +kernel
theorem d_Md_goOut_25 : decode b_Md_goOut 25 = .ok (.iload 4, 2) := by decide +kernel
theorem d_Md_goOut_27 : decode b_Md_goOut 27 = .ok (.aload_n 0, 1) := by decide +kernel
theorem d_Md_goOut_28 : decode b_Md_goOut 28 = .ok (.getfield 146, 3) := by decide +kernel
theorem d_Md_goOut_31 : decode b_Md_goOut 31 = .ok (.aload_n 0, 1) := by decide +kernel
theorem d_Md_goOut_32 : decode b_Md_goOut 32 = .ok (.iload_n 1, 1) := by decide +kernel
theorem d_Md_goOut_33 : decode b_Md_goOut 33 = .ok (.iload_n 2, 1) := by decide +kernel
theorem d_Md_goOut_34 : decode b_Md_goOut 34 = .ok (.invokevirtual 265, 3) := by decide +kernel
theorem d_Md_goOut_37 : decode b_Md_goOut 37 = .ok (.iload 4, 2) := by decide +kernel
theorem d_Md_goOut_39 : decode b_Md_goOut 39 = .ok (.iadd, 1) := by decide +kernel
theorem d_Md_goOut_40 : decode b_Md_goOut 40 = .ok (.iaload, 1) := by decide +kernel
theorem d_Md_goOut_41 : decode b_Md_goOut 41 = .ok (.iastore, 1) := by decide +kernel
theorem d_Md_goOut_42 : decode b_Md_goOut 42 = .ok (.iinc 4 1, 3) := by decide +kernel
theorem d_Md_goOut_45 : decode b_Md_goOut 45 = .ok (.goto (-30), 3) := by decide +kernel
theorem d_Md_goOut_48 : decode b_Md_goOut 48 = .ok (.aload_n 0, 1) := by decide +kernel
theorem d_Md_goOut_49 : decode b_Md_goOut 49 = .ok (.getfield 140, 3) := by decide +kernel
theorem d_Md_goOut_52 : decode b_Md_goOut 52 = .ok (.iload_n 1, 1) := by decide +kernel
theorem d_Md_goOut_53 : decode b_Md_goOut 53 = .ok (.dup2, 1) := by decide +kernel
theorem d_Md_goOut_54 : decode b_Md_goOut 54 = .ok (.iaload, 1) := by decide +kernel
theorem d_Md_goOut_55 : decode b_Md_goOut 55 = .ok (.iconst 1, 1) := by decide +kernel
theorem d_Md_goOut_56 : decode b_Md_goOut 56 = .ok (.isub, 1) := by decide +kernel
theorem d_Md_goOut_57 : decode b_Md_goOut 57 = .ok (.iastore, 1) := by decide +kernel
theorem d_Md_goOut_58 : decode b_Md_goOut 58 = .ok (.iload_n 2, 1) := by decide +kernel
theorem d_Md_goOut_59 : decode b_Md_goOut 59 = .ok (.istore 4, 2) := by decide +kernel
theorem d_Md_goOut_61 : decode b_Md_goOut 61 = .ok (.iload 4, 2) := by decide +kernel
theorem d_Md_goOut_63 : decode b_Md_goOut 63 = .ok (.aload_n 0, 1) := by decide +kernel
theorem d_Md_goOut_64 : decode b_Md_goOut 64 = .ok (.getfield 140, 3) := by decide +kernel
theorem d_Md_goOut_67 : decode b_Md_goOut 67 = .ok (.iload_n 1, 1) := by decide +kernel
theorem d_Md_goOut_68 : decode b_Md_goOut 68 = .ok (.iaload, 1) := by decide +kernel
theorem d_Md_goOut_69 : decode b_Md_goOut 69 = .ok (.if_icmp .ge 83, 3) := by decide +kernel
theorem d_Md_goOut_72 : decode b_Md_goOut 72 = .ok (.aload_n 0, 1) := by decide +kernel
theorem d_Md_goOut_73 : decode b_Md_goOut 73 = .ok (.getfield 143, 3) := by decide +kernel
theorem d_Md_goOut_76 : decode b_Md_goOut 76 = .ok (.bipush 16, 2) := by decide +kernel
theorem d_Md_goOut_78 : decode b_Md_goOut 78 = .ok (.iload_n 1, 1) := by decide +kernel
theorem d_Md_goOut_79 : decode b_Md_goOut 79 = .ok (.imul, 1) := by decide +kernel
theorem d_Md_goOut_80 : decode b_Md_goOut 80 = .ok (.iload 4, 2) := by decide +kernel
theorem d_Md_goOut_82 : decode b_Md_goOut 82 = .ok (.iadd, 1) := by decide +kernel
theorem d_Md_goOut_83 : decode b_Md_goOut 83 = .ok (.aload_n 0, 1) := by decide +kernel
theorem d_Md_goOut_84 : decode b_Md_goOut 84 = .ok (.getfield 143, 3) := by decide +kernel
theorem d_Md_goOut_87 : decode b_Md_goOut 87 = .ok (.bipush 16, 2) := by decide +kernel
theorem d_Md_goOut_89 : decode b_Md_goOut 89 = .ok (.iload_n 1, 1) := by decide +kernel
theorem d_Md_goOut_90 : decode b_Md_goOut 90 = .ok (.imul, 1) := by decide +kernel
theorem d_Md_goOut_91 : decode b_Md_goOut 91 = .ok (.iload 4, 2) := by decide +kernel
theorem d_Md_goOut_93 : decode b_Md_goOut 93 = .ok (.iadd, 1) := by decide +kernel
theorem d_Md_goOut_94 : decode b_Md_goOut 94 = .ok (.iconst 1, 1) := by decide +kernel
theorem d_Md_goOut_95 : decode b_Md_goOut 95 = .ok (.iadd, 1) := by decide +kernel
theorem d_Md_goOut_96 : decode b_Md_goOut 96 = .ok (.iaload, 1) := by decide +kernel
theorem d_Md_goOut_97 : decode b_Md_goOut 97 = .ok (.iastore, 1) := by decide +kernel
theorem d_Md_goOut_98 : decode b_Md_goOut 98 = .ok (.iconst 0, 1) := by decide +kernel
theorem d_Md_goOut_99 : decode b_Md_goOut 99 = .ok (.istore 5, 2) := by decide +kernel
theorem d_Md_goOut_101 : decode b_Md_goOut 101 = .ok (.iload 5, 2) := by decide +kernel
theorem d_Md_goOut_103 : decode b_Md_goOut 103 = .ok (.bipush 68, 2) := by decide +kernel
theorem d_Md_goOut_105 : decode b_Md_goOut 105 = .ok (.if_icmp .ge 41, 3) := by decide +kernel
theorem d_Md_goOut_108 : decode b_Md_goOut 108 = .ok (.aload_n 0, 1) := by decide +kernel
theorem d_Md_goOut_109 : decode b_Md_goOut 109 = .ok (.getfield 146, 3) := by decide +kernel
theorem d_Md_goOut_112 : decode b_Md_goOut 112 = .ok (.aload_n 0, 1) := by decide +kernel
theorem d_Md_goOut_113 : decode b_Md_goOut 113 = .ok (.iload_n 1, 1) := by decide +kernel
theorem d_Md_goOut_114 : decode b_Md_goOut 114 = .ok (.iload 4, 2) := by decide +kernel
theorem d_Md_goOut_116 : decode b_Md_goOut 116 = .ok (.invokevirtual 265, 3) := by decide +kernel
theorem d_Md_goOut_119 : decode b_Md_goOut 119 = .ok (.iload 5, 2) := by decide +kernel
theorem d_Md_goOut_121 : decode b_Md_goOut 121 = .ok (.iadd, 1) := by decide +kernel
theorem d_Md_goOut_122 : decode b_Md_goOut 122 = .ok (.aload_n 0, 1) := by decide +kernel
theorem d_Md_goOut_123 : decode b_Md_goOut 123 = .ok (.getfield 146, 3) := by decide +kernel
theorem d_Md_goOut_126 : decode b_Md_goOut 126 = .ok (.aload_n 0, 1) := by decide +kernel
theorem d_Md_goOut_127 : decode b_Md_goOut 127 = .ok (.iload_n 1, 1) := by decide +kernel
theorem d_Md_goOut_128 : decode b_Md_goOut 128 = .ok (.iload 4, 2) := by decide +kernel
theorem d_Md_goOut_130 : decode b_Md_goOut 130 = .ok (.iconst 1, 1) := by decide +kernel
theorem d_Md_goOut_131 : decode b_Md_goOut 131 = .ok (.iadd, 1) := by decide +kernel
theorem d_Md_goOut_132 : decode b_Md_goOut 132 = .ok (.invokevirtual 265, 3) := by decide +kernel
theorem d_Md_goOut_135 : decode b_Md_goOut 135 = .ok (.iload 5, 2) := by decide +kernel
theorem d_Md_goOut_137 : decode b_Md_goOut 137 = .ok (.iadd, 1) := by decide +kernel
theorem d_Md_goOut_138 : decode b_Md_goOut 138 = .ok (.iaload, 1) := by decide +kernel
theorem d_Md_goOut_139 : decode b_Md_goOut 139 = .ok (.iastore, 1) := by decide +kernel
theorem d_Md_goOut_140 : decode b_Md_goOut 140 = .ok (.iinc 5 1, 3) := by decide +kernel
theorem d_Md_goOut_143 : decode b_Md_goOut 143 = .ok (.goto (-42), 3) := by decide +kernel
theorem d_Md_goOut_146 : decode b_Md_goOut 146 = .ok (.iinc 4 1, 3) := by decide +kernel
theorem d_Md_goOut_149 : decode b_Md_goOut 149 = .ok (.goto (-88), 3) := by decide +kernel
theorem d_Md_goOut_152 : decode b_Md_goOut 152 = .ok (.aload_n 0, 1) := by decide +kernel
theorem d_Md_goOut_153 : decode b_Md_goOut 153 = .ok (.getfield 166, 3) := by decide +kernel
theorem d_Md_goOut_156 : decode b_Md_goOut 156 = .ok (.iconst 5, 1) := by decide +kernel
theorem d_Md_goOut_157 : decode b_Md_goOut 157 = .ok (.iaload, 1) := by decide +kernel
theorem d_Md_goOut_158 : decode b_Md_goOut 158 = .ok (.istore 4, 2) := by decide +kernel
theorem d_Md_goOut_160 : decode b_Md_goOut 160 = .ok (.aload_n 0, 1) := by decide +kernel
theorem d_Md_goOut_161 : decode b_Md_goOut 161 = .ok (.invokevirtual 259, 3) := by decide +kernel
theorem d_Md_goOut_164 : decode b_Md_goOut 164 = .ok (.istore 5, 2) := by decide +kernel
theorem d_Md_goOut_166 : decode b_Md_goOut 166 = .ok (.bipush 8, 2) := by decide +kernel
theorem d_Md_goOut_168 : decode b_Md_goOut 168 = .ok (.iload_n 1, 1) := by decide +kernel
theorem d_Md_goOut_169 : decode b_Md_goOut 169 = .ok (.imul, 1) := by decide +kernel
theorem d_Md_goOut_170 : decode b_Md_goOut 170 = .ok (.iload 5, 2) := by decide +kernel
theorem d_Md_goOut_172 : decode b_Md_goOut 172 = .ok (.invokestatic 239, 3) := by decide +kernel
theorem d_Md_goOut_175 : decode b_Md_goOut 175 = .ok (.iadd, 1) := by decide +kernel
theorem d_Md_goOut_176 : decode b_Md_goOut 176 = .ok (.istore 6, 2) := by decide +kernel
theorem d_Md_goOut_178 : decode b_Md_goOut 178 = .ok (.aload_n 0, 1) := by decide +kernel
theorem d_Md_goOut_179 : decode b_Md_goOut 179 = .ok (.iload 6, 2) := by decide +kernel
theorem d_Md_goOut_181 : decode b_Md_goOut 181 = .ok (.invokevirtual 262, 3) := by decide +kernel
theorem d_Md_goOut_184 : decode b_Md_goOut 184 = .ok (.iload 5, 2) := by decide +kernel
theorem d_Md_goOut_186 : decode b_Md_goOut 186 = .ok (.istore 7, 2) := by decide +kernel
theorem d_Md_goOut_188 : decode b_Md_goOut 188 = .ok (.iload 7, 2) := by decide +kernel
theorem d_Md_goOut_190 : decode b_Md_goOut 190 = .ok (.aload_n 0, 1) := by decide +kernel
theorem d_Md_goOut_191 : decode b_Md_goOut 191 = .ok (.getfield 131, 3) := by decide +kernel
theorem d_Md_goOut_194 : decode b_Md_goOut 194 = .ok (.iload 6, 2) := by decide +kernel
theorem d_Md_goOut_196 : decode b_Md_goOut 196 = .ok (.iaload, 1) := by decide +kernel
theorem d_Md_goOut_197 : decode b_Md_goOut 197 = .ok (.if_icmp .ge 13, 3) := by decide +kernel
theorem d_Md_goOut_200 : decode b_Md_goOut 200 = .ok (.aload_n 0, 1) := by decide +kernel
theorem d_Md_goOut_201 : decode b_Md_goOut 201 = .ok (.invokevirtual 227, 3) := by decide +kernel
theorem d_Md_goOut_204 : decode b_Md_goOut 204 = .ok (.iinc 7 1, 3) := by decide +kernel
theorem d_Md_goOut_207 : decode b_Md_goOut 207 = .ok (.goto (-19), 3) := by decide +kernel
theorem d_Md_goOut_210 : decode b_Md_goOut 210 = .ok (.aload_n 0, 1) := by decide +kernel
theorem d_Md_goOut_211 : decode b_Md_goOut 211 = .ok (.bipush 6, 2) := by decide +kernel
theorem d_Md_goOut_213 : decode b_Md_goOut 213 = .ok (.iload 4, 2) := by decide +kernel
theorem d_Md_goOut_215 : decode b_Md_goOut 215 = .ok (.iadd, 1) := by decide +kernel
theorem d_Md_goOut_216 : decode b_Md_goOut 216 = .ok (.invokevirtual 246, 3) := by decide +kernel
theorem d_Md_goOut_219 : decode b_Md_goOut 219 = .ok (.iconst 1, 1) := by decide +kernel
theorem d_Md_goOut_220 : decode b_Md_goOut 220 = .ok (.istore 7, 2) := by decide +kernel
theorem d_Md_goOut_222 : decode b_Md_goOut 222 = .ok (.iconst 0, 1) := by decide +kernel
theorem d_Md_goOut_223 : decode b_Md_goOut 223 = .ok (.istore 8, 2) := by decide +kernel
theorem d_Md_goOut_225 : decode b_Md_goOut 225 = .ok (.iload 8, 2) := by decide +kernel
theorem d_Md_goOut_227 : decode b_Md_goOut 227 = .ok (.bipush 10, 2) := by decide +kernel
theorem d_Md_goOut_229 : decode b_Md_goOut 229 = .ok (.if_icmp .ge 44, 3) := by decide +kernel
theorem d_Md_goOut_232 : decode b_Md_goOut 232 = .ok (.iload 7, 2) := by decide +kernel
theorem d_Md_goOut_234 : decode b_Md_goOut 234 = .ok (.ifCond .eq 30, 3) := by decide +kernel
theorem d_Md_goOut_237 : decode b_Md_goOut 237 = .ok (.aload_n 0, 1) := by decide +kernel
theorem d_Md_goOut_238 : decode b_Md_goOut 238 = .ok (.getfield 106, 3) := by decide +kernel
theorem d_Md_goOut_241 : decode b_Md_goOut 241 = .ok (.iload 8, 2) := by decide +kernel
theorem d_Md_goOut_243 : decode b_Md_goOut 243 = .ok (.iaload, 1) := by decide +kernel
theorem d_Md_goOut_244 : decode b_Md_goOut 244 = .ok (.aload_n 0, 1) := by decide +kernel
theorem d_Md_goOut_245 : decode b_Md_goOut 245 = .ok (.getfield 166, 3) := by decide +kernel
theorem d_Md_goOut_248 : decode b_Md_goOut 248 = .ok (.bipush 6, 2) := by decide +kernel
theorem d_Md_goOut_250 : decode b_Md_goOut 250 = .ok (.iload 4, 2) := by decide +kernel
theorem d_Md_goOut_252 : decode b_Md_goOut 252 = .ok (.iadd, 1) := by decide +kernel
theorem d_Md_goOut_253 : decode b_Md_goOut 253 = .ok (.iload 8, 2) := by decide +kernel
theorem d_Md_goOut_255 : decode b_Md_goOut 255 = .ok (.iadd, 1) := by decide +kernel
theorem d_Md_goOut_256 : decode b_Md_goOut 256 = .ok (.iaload, 1) := by decide +kernel
theorem d_Md_goOut_257 : decode b_Md_goOut 257 = .ok (.if_icmp .ne 7, 3) := by decide +kernel
theorem d_Md_goOut_260 : decode b_Md_goOut 260 = .ok (.iconst 1, 1) := by decide +kernel
theorem d_Md_goOut_261 : decode b_Md_goOut 261 = .ok (.goto 4, 3) := by decide +kernel
theorem d_Md_goOut_264 : decode b_Md_goOut 264 = .ok (.iconst 0, 1) := by decide +kernel
theorem d_Md_goOut_265 : decode b_Md_goOut 265 = .ok (.istore 7, 2) := by decide +kernel
theorem d_Md_goOut_267 : decode b_Md_goOut 267 = .ok (.iinc 8 1, 3) := by decide +kernel
theorem d_Md_goOut_270 : decode b_Md_goOut 270 = .ok (.goto (-45), 3) := by decide +kernel
theorem d_Md_goOut_273 : decode b_Md_goOut 273 = .ok (.iload 7, 2) := by decide +kernel
theorem d_Md_goOut_275 : decode b_Md_goOut 275 = .ok (.ifCond .ne 20, 3) := by decide +kernel
theorem d_Md_goOut_278 : decode b_Md_goOut 278 = .ok (.aload_n 0, 1) := by decide +kernel
theorem d_Md_goOut_279 : decode b_Md_goOut 279 = .ok (.getfield 137, 3) := by decide +kernel
theorem d_Md_goOut_282 : decode b_Md_goOut 282 = .ok (.bipush 8, 2) := by decide +kernel
theorem d_Md_goOut_284 : decode b_Md_goOut 284 = .ok (.iload_n 1, 1) := by decide +kernel
theorem d_Md_goOut_285 : decode b_Md_goOut 285 = .ok (.imul, 1) := by decide +kernel
theorem d_Md_goOut_286 : decode b_Md_goOut 286 = .ok (.bipush 6, 2) := by decide +kernel
theorem d_Md_goOut_288 : decode b_Md_goOut 288 = .ok (.iadd, 1) := by decide +kernel
theorem d_Md_goOut_289 : decode b_Md_goOut 289 = .ok (.dup2, 1) := by decide +kernel
theorem d_Md_goOut_290 : decode b_Md_goOut 290 = .ok (.iaload, 1) := by decide +kernel
theorem d_Md_goOut_291 : decode b_Md_goOut 291 = .ok (.iconst 1, 1) := by decide +kernel
theorem d_Md_goOut_292 : decode b_Md_goOut 292 = .ok (.iadd, 1) := by decide +kernel
theorem d_Md_goOut_293 : decode b_Md_goOut 293 = .ok (.iastore, 1) := by decide +kernel
theorem d_Md_goOut_294 : decode b_Md_goOut 294 = .ok (.return_, 1) := by decide +kernel
theorem d_Md_goOut_295 : decode b_Md_goOut 295 = .ok (.aload_n 0, 1) := by decide +kernel
theorem d_Md_goOut_296 : decode b_Md_goOut 296 = .ok (.iload_n 1, 1) := by decide +kernel
theorem d_Md_goOut_297 : decode b_Md_goOut 297 = .ok (.iload 5, 2) := by decide +kernel
theorem d_Md_goOut_299 : decode b_Md_goOut 299 = .ok (.iload 4, 2) := by decide +kernel
theorem d_Md_goOut_301 : decode b_Md_goOut 301 = .ok (.invokevirtual 279, 3) := by decide +kernel
theorem d_Md_goOut_304 : decode b_Md_goOut 304 = .ok (.aload_n 0, 1) := by decide +kernel
theorem d_Md_goOut_305 : decode b_Md_goOut 305 = .ok (.getfield 166, 3) := by decide +kernel
theorem d_Md_goOut_308 : decode b_Md_goOut 308 = .ok (.iconst 4, 1) := by decide +kernel
theorem d_Md_goOut_309 : decode b_Md_goOut 309 = .ok (.iaload, 1) := by decide +kernel
theorem d_Md_goOut_310 : decode b_Md_goOut 310 = .ok (.iconst 1, 1) := by decide +kernel
theorem d_Md_goOut_311 : decode b_Md_goOut 311 = .ok (.if_icmp .ne 116, 3) := by decide +kernel
theorem d_Md_goOut_314 : decode b_Md_goOut 314 = .ok (.iload 5, 2) := by decide +kernel
theorem d_Md_goOut_316 : decode b_Md_goOut 316 = .ok (.invokestatic 239, 3) := by decide +kernel
theorem d_Md_goOut_319 : decode b_Md_goOut 319 = .ok (.iconst 1, 1) := by decide +kernel
theorem d_Md_goOut_320 : decode b_Md_goOut 320 = .ok (.iadd, 1) := by decide +kernel
theorem d_Md_goOut_321 : decode b_Md_goOut 321 = .ok (.bipush 8, 2) := by decide +kernel
theorem d_Md_goOut_323 : decode b_Md_goOut 323 = .ok (.if_icmp .ge 104, 3) := by decide +kernel
theorem d_Md_goOut_326 : decode b_Md_goOut 326 = .ok (.aload_n 0, 1) := by decide +kernel
theorem d_Md_goOut_327 : decode b_Md_goOut 327 = .ok (.getfield 124, 3) := by decide +kernel
theorem d_Md_goOut_330 : decode b_Md_goOut 330 = .ok (.iload 6, 2) := by decide +kernel
theorem d_Md_goOut_332 : decode b_Md_goOut 332 = .ok (.iconst 1, 1) := by decide +kernel
theorem d_Md_goOut_333 : decode b_Md_goOut 333 = .ok (.iadd, 1) := by decide +kernel
theorem d_Md_goOut_334 : decode b_Md_goOut 334 = .ok (.baload, 1) := by decide +kernel
theorem d_Md_goOut_335 : decode b_Md_goOut 335 = .ok (.ifCond .ne 92, 3) := by decide +kernel
theorem d_Md_goOut_338 : decode b_Md_goOut 338 = .ok (.aload_n 0, 1) := by decide +kernel
theorem d_Md_goOut_339 : decode b_Md_goOut 339 = .ok (.getfield 124, 3) := by decide +kernel
theorem d_Md_goOut_342 : decode b_Md_goOut 342 = .ok (.iload 6, 2) := by decide +kernel
theorem d_Md_goOut_344 : decode b_Md_goOut 344 = .ok (.iconst 1, 1) := by decide +kernel
theorem d_Md_goOut_345 : decode b_Md_goOut 345 = .ok (.iadd, 1) := by decide +kernel
theorem d_Md_goOut_346 : decode b_Md_goOut 346 = .ok (.iconst 1, 1) := by decide +kernel
theorem d_Md_goOut_347 : decode b_Md_goOut 347 = .ok (.bastore, 1) := by decide +kernel
theorem d_Md_goOut_348 : decode b_Md_goOut 348 = .ok (.aload_n 0, 1) := by decide +kernel
theorem d_Md_goOut_349 : decode b_Md_goOut 349 = .ok (.getfield 128, 3) := by decide +kernel
theorem d_Md_goOut_352 : decode b_Md_goOut 352 = .ok (.iload 6, 2) := by decide +kernel
theorem d_Md_goOut_354 : decode b_Md_goOut 354 = .ok (.iconst 1, 1) := by decide +kernel
theorem d_Md_goOut_355 : decode b_Md_goOut 355 = .ok (.iadd, 1) := by decide +kernel
theorem d_Md_goOut_356 : decode b_Md_goOut 356 = .ok (.bipush 64, 2) := by decide +kernel
theorem d_Md_goOut_358 : decode b_Md_goOut 358 = .ok (.iload 5, 2) := by decide +kernel
theorem d_Md_goOut_360 : decode b_Md_goOut 360 = .ok (.invokestatic 239, 3) := by decide +kernel
theorem d_Md_goOut_363 : decode b_Md_goOut 363 = .ok (.iconst 1, 1) := by decide +kernel
theorem d_Md_goOut_364 : decode b_Md_goOut 364 = .ok (.iadd, 1) := by decide +kernel
theorem d_Md_goOut_365 : decode b_Md_goOut 365 = .ok (.imul, 1) := by decide +kernel
theorem d_Md_goOut_366 : decode b_Md_goOut 366 = .ok (.iastore, 1) := by decide +kernel
theorem d_Md_goOut_367 : decode b_Md_goOut 367 = .ok (.aload_n 0, 1) := by decide +kernel
theorem d_Md_goOut_368 : decode b_Md_goOut 368 = .ok (.getfield 131, 3) := by decide +kernel
theorem d_Md_goOut_371 : decode b_Md_goOut 371 = .ok (.iload 6, 2) := by decide +kernel
theorem d_Md_goOut_373 : decode b_Md_goOut 373 = .ok (.iconst 1, 1) := by decide +kernel
theorem d_Md_goOut_374 : decode b_Md_goOut 374 = .ok (.iadd, 1) := by decide +kernel
theorem d_Md_goOut_375 : decode b_Md_goOut 375 = .ok (.bipush 64, 2) := by decide +kernel
theorem d_Md_goOut_377 : decode b_Md_goOut 377 = .ok (.iload 5, 2) := by decide +kernel
theorem d_Md_goOut_379 : decode b_Md_goOut 379 = .ok (.invokestatic 239, 3) := by decide +kernel
theorem d_Md_goOut_382 : decode b_Md_goOut 382 = .ok (.iconst 1, 1) := by decide +kernel
theorem d_Md_goOut_383 : decode b_Md_goOut 383 = .ok (.iadd, 1) := by decide +kernel
theorem d_Md_goOut_384 : decode b_Md_goOut 384 = .ok (.imul, 1) := by decide +kernel
theorem d_Md_goOut_385 : decode b_Md_goOut 385 = .ok (.iastore, 1) := by decide +kernel
theorem d_Md_goOut_386 : decode b_Md_goOut 386 = .ok (.iconst 0, 1) := by decide +kernel
theorem d_Md_goOut_387 : decode b_Md_goOut 387 = .ok (.istore 8, 2) := by decide +kernel
theorem d_Md_goOut_389 : decode b_Md_goOut 389 = .ok (.iload 8, 2) := by decide +kernel
theorem d_Md_goOut_391 : decode b_Md_goOut 391 = .ok (.bipush 20, 2) := by decide +kernel
theorem d_Md_goOut_393 : decode b_Md_goOut 393 = .ok (.if_icmp .ge 34, 3) := by decide +kernel
theorem d_Md_goOut_396 : decode b_Md_goOut 396 = .ok (.aload_n 0, 1) := by decide +kernel
theorem d_Md_goOut_397 : decode b_Md_goOut 397 = .ok (.getfield 134, 3) := by decide +kernel
theorem d_Md_goOut_400 : decode b_Md_goOut 400 = .ok (.bipush 20, 2) := by decide +kernel
theorem d_Md_goOut_402 : decode b_Md_goOut 402 = .ok (.iload 6, 2) := by decide +kernel
theorem d_Md_goOut_404 : decode b_Md_goOut 404 = .ok (.iconst 1, 1) := by decide +kernel
theorem d_Md_goOut_405 : decode b_Md_goOut 405 = .ok (.iadd, 1) := by decide +kernel
theorem d_Md_goOut_406 : decode b_Md_goOut 406 = .ok (.imul, 1) := by decide +kernel
theorem d_Md_goOut_407 : decode b_Md_goOut 407 = .ok (.iload 8, 2) := by decide +kernel
theorem d_Md_goOut_409 : decode b_Md_goOut 409 = .ok (.iadd, 1) := by decide +kernel
theorem d_Md_goOut_410 : decode b_Md_goOut 410 = .ok (.aload_n 0, 1) := by decide +kernel
theorem d_Md_goOut_411 : decode b_Md_goOut 411 = .ok (.getfield 166, 3) := by decide +kernel
theorem d_Md_goOut_414 : decode b_Md_goOut 414 = .ok (.bipush 6, 2) := by decide +kernel
theorem d_Md_goOut_416 : decode b_Md_goOut 416 = .ok (.iload 8, 2) := by decide +kernel
theorem d_Md_goOut_418 : decode b_Md_goOut 418 = .ok (.iadd, 1) := by decide +kernel
theorem d_Md_goOut_419 : decode b_Md_goOut 419 = .ok (.iaload, 1) := by decide +kernel
theorem d_Md_goOut_420 : decode b_Md_goOut 420 = .ok (.iastore, 1) := by decide +kernel
theorem d_Md_goOut_421 : decode b_Md_goOut 421 = .ok (.iinc 8 1, 3) := by decide +kernel
theorem d_Md_goOut_424 : decode b_Md_goOut 424 = .ok (.goto (-35), 3) := by decide +kernel
theorem d_Md_goOut_427 : decode b_Md_goOut 427 = .ok (.return_, 1) := by decide +kernel
theorem d_Md_release_0 : decode b_Md_release 0 = .ok (.iconst 0, 1) := by decide +kernel
theorem d_Md_release_1 : decode b_Md_release 1 = .ok (.istore_n 2, 1) := by decide +kernel
theorem d_Md_release_2 : decode b_Md_release 2 = .ok (.iload_n 2, 1) := by decide +kernel
theorem d_Md_release_3 : decode b_Md_release 3 = .ok (.bipush 68, 2) := by decide +kernel
theorem d_Md_release_5 : decode b_Md_release 5 = .ok (.if_icmp .ge 21, 3) := by decide +kernel
theorem d_Md_release_8 : decode b_Md_release 8 = .ok (.aload_n 0, 1) := by decide +kernel
theorem d_Md_release_9 : decode b_Md_release 9 = .ok (.getfield 172, 3) := by decide +kernel
theorem d_Md_release_12 : decode b_Md_release 12 = .ok (.iload_n 2, 1) := by decide +kernel
theorem d_Md_release_13 : decode b_Md_release 13 = .ok (.aload_n 0, 1) := by decide +kernel
theorem d_Md_release_14 : decode b_Md_release 14 = .ok (.getfield 166, 3) := by decide +kernel
theorem d_Md_release_17 : decode b_Md_release 17 = .ok (.iload_n 2, 1) := by decide +kernel
theorem d_Md_release_18 : decode b_Md_release 18 = .ok (.iaload, 1) := by decide +kernel
theorem d_Md_release_19 : decode b_Md_release 19 = .ok (.iastore, 1) := by decide +kernel
theorem d_Md_release_20 : decode b_Md_release 20 = .ok (.iinc 2 1, 3) := by decide +kernel
theorem d_Md_release_23 : decode b_Md_release 23 = .ok (.goto (-21), 3) := by decide +kernel
theorem d_Md_release_26 : decode b_Md_release 26 = .ok (.iconst 1, 1) := by decide +kernel
theorem d_Md_release_27 : decode b_Md_release 27 = .ok (.istore_n 2, 1) := by decide +kernel
theorem d_Md_release_28 : decode b_Md_release 28 = .ok (.iload_n 2, 1) := by decide +kernel
theorem d_Md_release_29 : decode b_Md_release 29 = .ok (.ifCond .eq 81, 3) := by decide +kernel
theorem d_Md_release_32 : decode b_Md_release 32 = .ok (.iconst (-1), 1) := by decide +kernel
theorem d_Md_release_33 : decode b_Md_release 33 = .ok (.istore_n 3, 1) := by decide +kernel
theorem d_Md_release_34 : decode b_Md_release 34 = .ok (.iconst 0, 1) := by decide +kernel
theorem d_Md_release_35 : decode b_Md_release 35 = .ok (.istore 4, 2) := by decide +kernel
theorem d_Md_release_37 : decode b_Md_release 37 = .ok (.iload 4, 2) := by decide +kernel
theorem d_Md_release_39 : decode b_Md_release 39 = .ok (.aload_n 0, 1) := by decide +kernel
theorem d_Md_release_40 : decode b_Md_release 40 = .ok (.getfield 140, 3) := by decide +kernel
theorem d_Md_release_43 : decode b_Md_release 43 = .ok (.iload_n 1, 1) := by decide +kernel
theorem d_Md_release_44 : decode b_Md_release 44 = .ok (.iaload, 1) := by decide +kernel
theorem d_Md_release_45 : decode b_Md_release 45 = .ok (.if_icmp .ge 42, 3) := by decide +kernel
theorem d_Md_release_48 : decode b_Md_release 48 = .ok (.aload_n 0, 1) := by decide +kernel
theorem d_Md_release_49 : decode b_Md_release 49 = .ok (.iload_n 1, 1) := by decide +kernel
theorem d_Md_release_50 : decode b_Md_release 50 = .ok (.iload 4, 2) := by decide +kernel
theorem d_Md_release_52 : decode b_Md_release 52 = .ok (.invokevirtual 271, 3) := by decide +kernel
theorem d_Md_release_55 : decode b_Md_release 55 = .ok (.ifCond .eq 26, 3) := by decide +kernel
theorem d_Md_release_58 : decode b_Md_release 58 = .ok (.iload_n 3, 1) := by decide +kernel
theorem d_Md_release_59 : decode b_Md_release 59 = .ok (.ifCond .lt 19, 3) := by decide +kernel
theorem d_Md_release_62 : decode b_Md_release 62 = .ok (.aload_n 0, 1) := by decide +kernel
theorem d_Md_release_63 : decode b_Md_release 63 = .ok (.iload_n 1, 1) := by decide +kernel
theorem d_Md_release_64 : decode b_Md_release 64 = .ok (.iload 4, 2) := by decide +kernel
theorem d_Md_release_66 : decode b_Md_release 66 = .ok (.invokevirtual 268, 3) := by decide +kernel
theorem d_Md_release_69 : decode b_Md_release 69 = .ok (.aload_n 0, 1) := by decide +kernel
theorem d_Md_release_70 : decode b_Md_release 70 = .ok (.iload_n 1, 1) := by decide +kernel
theorem d_Md_release_71 : decode b_Md_release 71 = .ok (.iload_n 3, 1) := by decide +kernel
theorem d_Md_release_72 : decode b_Md_release 72 = .ok (.invokevirtual 268, 3) := by decide +kernel
theorem d_Md_release_75 : decode b_Md_release 75 = .ok (.if_icmp .ge 6, 3) := by decide +kernel
theorem d_Md_release_78 : decode b_Md_release 78 = .ok (.iload 4, 2) := by decide +kernel
theorem d_Md_release_80 : decode b_Md_release 80 = .ok (.istore_n 3, 1) := by decide +kernel
theorem d_Md_release_81 : decode b_Md_release 81 = .ok (.iinc 4 1, 3) := by decide +kernel
theorem d_Md_release_84 : decode b_Md_release 84 = .ok (.goto (-47), 3) := by decide +kernel
theorem d_Md_release_87 : decode b_Md_release 87 = .ok (.iload_n 3, 1) := by decide +kernel
theorem d_Md_release_88 : decode b_Md_release 88 = .ok (.ifCond .lt 7, 3) := by decide +kernel
theorem d_Md_release_91 : decode b_Md_release 91 = .ok (.iconst 1, 1) := by decide +kernel
theorem d_Md_release_92 : decode b_Md_release 92 = .ok (.goto 4, 3) := by decide +kernel
theorem d_Md_release_95 : decode b_Md_release 95 = .ok (.iconst 0, 1) := by decide +kernel
theorem d_Md_release_96 : decode b_Md_release 96 = .ok (.istore_n 2, 1) := by decide +kernel
theorem d_Md_release_97 : decode b_Md_release 97 = .ok (.iload_n 2, 1) := by decide +kernel
theorem d_Md_release_98 : decode b_Md_release 98 = .ok (.ifCond .eq 9, 3) := by decide +kernel
theorem d_Md_release_101 : decode b_Md_release 101 = .ok (.aload_n 0, 1) := by decide +kernel
theorem d_Md_release_102 : decode b_Md_release 102 = .ok (.iload_n 1, 1) := by decide +kernel
theorem d_Md_release_103 : decode b_Md_release 103 = .ok (.iload_n 3, 1) := by decide +kernel
theorem d_Md_release_104 : decode b_Md_release 104 = .ok (.invokevirtual 275, 3) := by decide +kernel
theorem d_Md_release_107 : decode b_Md_release 107 = .ok (.goto (-79), 3) := by decide +kernel
theorem d_Md_release_110 : decode b_Md_release 110 = .ok (.iconst 0, 1) := by decide +kernel
theorem d_Md_release_111 : decode b_Md_release 111 = .ok (.istore_n 3, 1) := by decide +kernel
theorem d_Md_release_112 : decode b_Md_release 112 = .ok (.iload_n 3, 1) := by decide +kernel
theorem d_Md_release_113 : decode b_Md_release 113 = .ok (.bipush 68, 2) := by decide +kernel
theorem d_Md_release_115 : decode b_Md_release 115 = .ok (.if_icmp .ge 21, 3) := by decide +kernel
theorem d_Md_release_118 : decode b_Md_release 118 = .ok (.aload_n 0, 1) := by decide +kernel
theorem d_Md_release_119 : decode b_Md_release 119 = .ok (.getfield 166, 3) := by decide +kernel
theorem d_Md_release_122 : decode b_Md_release 122 = .ok (.iload_n 3, 1) := by decide +kernel
theorem d_Md_release_123 : decode b_Md_release 123 = .ok (.aload_n 0, 1) := by decide +kernel
theorem d_Md_release_124 : decode b_Md_release 124 = .ok (.getfield 172, 3) := by decide +kernel
theorem d_Md_release_127 : decode b_Md_release 127 = .ok (.iload_n 3, 1) := by decide +kernel
theorem d_Md_release_128 : decode b_Md_release 128 = .ok (.iaload, 1) := by decide +kernel
theorem d_Md_release_129 : decode b_Md_release 129 = .ok (.iastore, 1) := by decide +kernel
theorem d_Md_release_130 : decode b_Md_release 130 = .ok (.iinc 3 1, 3) := by decide +kernel
theorem d_Md_release_133 : decode b_Md_release 133 = .ok (.goto (-21), 3) := by decide +kernel
theorem d_Md_release_136 : decode b_Md_release 136 = .ok (.return_, 1) := by decide +kernel
theorem d_Md_isTwice_0 : decode b_Md_isTwice 0 = .ok (.aload_n 0, 1) := by decide +kernel
theorem d_Md_isTwice_1 : decode b_Md_isTwice 1 = .ok (.invokevirtual 259, 3) := by decide +kernel
theorem d_Md_isTwice_4 : decode b_Md_isTwice 4 = .ok (.istore_n 2, 1) := by decide +kernel
theorem d_Md_isTwice_5 : decode b_Md_isTwice 5 = .ok (.bipush 6, 2) := by decide +kernel
theorem d_Md_isTwice_7 : decode b_Md_isTwice 7 = .ok (.aload_n 0, 1) := by decide +kernel
theorem d_Md_isTwice_8 : decode b_Md_isTwice 8 = .ok (.getfield 166, 3) := by decide +kernel
theorem d_Md_isTwice_11 : decode b_Md_isTwice 11 = .ok (.iconst 5, 1) := by decide +kernel
theorem d_Md_isTwice_12 : decode b_Md_isTwice 12 = .ok (.iaload, 1) := by decide +kernel
theorem d_Md_isTwice_13 : decode b_Md_isTwice 13 = .ok (.iadd, 1) := by decide +kernel
theorem d_Md_isTwice_14 : decode b_Md_isTwice 14 = .ok (.istore_n 3, 1) := by decide +kernel
theorem d_Md_isTwice_15 : decode b_Md_isTwice 15 = .ok (.iconst 0, 1) := by decide +kernel
theorem d_Md_isTwice_16 : decode b_Md_isTwice 16 = .ok (.istore 4, 2) := by decide +kernel
theorem d_Md_isTwice_18 : decode b_Md_isTwice 18 = .ok (.iconst 0, 1) := by decide +kernel
theorem d_Md_isTwice_19 : decode b_Md_isTwice 19 = .ok (.istore 5, 2) := by decide +kernel
theorem d_Md_isTwice_21 : decode b_Md_isTwice 21 = .ok (.iload 5, 2) := by decide +kernel
theorem d_Md_isTwice_23 : decode b_Md_isTwice 23 = .ok (.aload_n 0, 1) := by decide +kernel
theorem d_Md_isTwice_24 : decode b_Md_isTwice 24 = .ok (.getfield 140, 3) := by decide +kernel
theorem d_Md_isTwice_27 : decode b_Md_isTwice 27 = .ok (.iload_n 1, 1) := by decide +kernel
theorem d_Md_isTwice_28 : decode b_Md_isTwice 28 = .ok (.iaload, 1) := by decide +kernel
theorem d_Md_isTwice_29 : decode b_Md_isTwice 29 = .ok (.if_icmp .ge 116, 3) := by decide +kernel
theorem d_Md_isTwice_32 : decode b_Md_isTwice 32 = .ok (.aload_n 0, 1) := by decide +kernel
theorem d_Md_isTwice_33 : decode b_Md_isTwice 33 = .ok (.iload_n 1, 1) := by decide +kernel
theorem d_Md_isTwice_34 : decode b_Md_isTwice 34 = .ok (.iload 5, 2) := by decide +kernel
theorem d_Md_isTwice_36 : decode b_Md_isTwice 36 = .ok (.invokevirtual 265, 3) := by decide +kernel
theorem d_Md_isTwice_39 : decode b_Md_isTwice 39 = .ok (.istore 6, 2) := by decide +kernel
theorem d_Md_isTwice_41 : decode b_Md_isTwice 41 = .ok (.aload_n 0, 1) := by decide +kernel
theorem d_Md_isTwice_42 : decode b_Md_isTwice 42 = .ok (.iload_n 1, 1) := by decide +kernel
theorem d_Md_isTwice_43 : decode b_Md_isTwice 43 = .ok (.iload 5, 2) := by decide +kernel
theorem d_Md_isTwice_45 : decode b_Md_isTwice 45 = .ok (.invokevirtual 268, 3) := by decide +kernel
theorem d_Md_isTwice_48 : decode b_Md_isTwice 48 = .ok (.iload_n 2, 1) := by decide +kernel
theorem d_Md_isTwice_49 : decode b_Md_isTwice 49 = .ok (.if_icmp .ne 7, 3) := by decide +kernel
theorem d_Md_isTwice_52 : decode b_Md_isTwice 52 = .ok (.iconst 1, 1) := by decide +kernel
theorem d_Md_isTwice_53 : decode b_Md_isTwice 53 = .ok (.goto 4, 3) := by decide +kernel
theorem d_Md_isTwice_56 : decode b_Md_isTwice 56 = .ok (.iconst 0, 1) := by decide +kernel
theorem d_Md_isTwice_57 : decode b_Md_isTwice 57 = .ok (.istore 7, 2) := by decide +kernel
theorem d_Md_isTwice_59 : decode b_Md_isTwice 59 = .ok (.iconst 0, 1) := by decide +kernel
theorem d_Md_isTwice_60 : decode b_Md_isTwice 60 = .ok (.istore 8, 2) := by decide +kernel
theorem d_Md_isTwice_62 : decode b_Md_isTwice 62 = .ok (.iload 8, 2) := by decide +kernel
theorem d_Md_isTwice_64 : decode b_Md_isTwice 64 = .ok (.bipush 10, 2) := by decide +kernel
theorem d_Md_isTwice_66 : decode b_Md_isTwice 66 = .ok (.if_icmp .ge 56, 3) := by decide +kernel
theorem d_Md_isTwice_69 : decode b_Md_isTwice 69 = .ok (.iload 7, 2) := by decide +kernel
theorem d_Md_isTwice_71 : decode b_Md_isTwice 71 = .ok (.ifCond .eq 42, 3) := by decide +kernel
theorem d_Md_isTwice_74 : decode b_Md_isTwice 74 = .ok (.aload_n 0, 1) := by decide +kernel
theorem d_Md_isTwice_75 : decode b_Md_isTwice 75 = .ok (.getfield 146, 3) := by decide +kernel
theorem d_Md_isTwice_78 : decode b_Md_isTwice 78 = .ok (.iload 6, 2) := by decide +kernel
theorem d_Md_isTwice_80 : decode b_Md_isTwice 80 = .ok (.bipush 6, 2) := by decide +kernel
theorem d_Md_isTwice_82 : decode b_Md_isTwice 82 = .ok (.iadd, 1) := by decide +kernel
theorem d_Md_isTwice_83 : decode b_Md_isTwice 83 = .ok (.aload_n 0, 1) := by decide +kernel
theorem d_Md_isTwice_84 : decode b_Md_isTwice 84 = .ok (.getfield 146, 3) := by decide +kernel
theorem d_Md_isTwice_87 : decode b_Md_isTwice 87 = .ok (.iload 6, 2) := by decide +kernel
theorem d_Md_isTwice_89 : decode b_Md_isTwice 89 = .ok (.iconst 5, 1) := by decide +kernel
theorem d_Md_isTwice_90 : decode b_Md_isTwice 90 = .ok (.iadd, 1) := by decide +kernel
theorem d_Md_isTwice_91 : decode b_Md_isTwice 91 = .ok (.iaload, 1) := by decide +kernel
theorem d_Md_isTwice_92 : decode b_Md_isTwice 92 = .ok (.iadd, 1) := by decide +kernel
theorem d_Md_isTwice_93 : decode b_Md_isTwice 93 = .ok (.iload 8, 2) := by decide +kernel
theorem d_Md_isTwice_95 : decode b_Md_isTwice 95 = .ok (.iadd, 1) := by decide +kernel
theorem d_Md_isTwice_96 : decode b_Md_isTwice 96 = .ok (.iaload, 1) := by decide +kernel
theorem d_Md_isTwice_97 : decode b_Md_isTwice 97 = .ok (.aload_n 0, 1) := by decide +kernel
theorem d_Md_isTwice_98 : decode b_Md_isTwice 98 = .ok (.getfield 166, 3) := by decide +kernel
theorem d_Md_isTwice_101 : decode b_Md_isTwice 101 = .ok (.iload_n 3, 1) := by decide +kernel
theorem d_Md_isTwice_102 : decode b_Md_isTwice 102 = .ok (.iload 8, 2) := by decide +kernel
theorem d_Md_isTwice_104 : decode b_Md_isTwice 104 = .ok (.iadd, 1) := by decide +kernel
theorem d_Md_isTwice_105 : decode b_Md_isTwice 105 = .ok (.iaload, 1) := by decide +kernel
theorem d_Md_isTwice_106 : decode b_Md_isTwice 106 = .ok (.if_icmp .ne 7, 3) := by decide +kernel
theorem d_Md_isTwice_109 : decode b_Md_isTwice 109 = .ok (.iconst 1, 1) := by decide +kernel
theorem d_Md_isTwice_110 : decode b_Md_isTwice 110 = .ok (.goto 4, 3) := by decide +kernel
theorem d_Md_isTwice_113 : decode b_Md_isTwice 113 = .ok (.iconst 0, 1) := by decide +kernel
theorem d_Md_isTwice_114 : decode b_Md_isTwice 114 = .ok (.istore 7, 2) := by decide +kernel
theorem d_Md_isTwice_116 : decode b_Md_isTwice 116 = .ok (.iinc 8 1, 3) := by decide +kernel
theorem d_Md_isTwice_119 : decode b_Md_isTwice 119 = .ok (.goto (-57), 3) := by decide +kernel
theorem d_Md_isTwice_122 : decode b_Md_isTwice 122 = .ok (.iload 4, 2) := by decide +kernel
theorem d_Md_isTwice_124 : decode b_Md_isTwice 124 = .ok (.ifCond .ne 8, 3) := by decide +kernel
theorem d_Md_isTwice_127 : decode b_Md_isTwice 127 = .ok (.iload 7, 2) := by decide +kernel
theorem d_Md_isTwice_129 : decode b_Md_isTwice 129 = .ok (.ifCond .eq 7, 3) := by decide +kernel
theorem d_Md_isTwice_132 : decode b_Md_isTwice 132 = .ok (.iconst 1, 1) := by decide +kernel
theorem d_Md_isTwice_133 : decode b_Md_isTwice 133 = .ok (.goto 4, 3) := by decide +kernel
theorem d_Md_isTwice_136 : decode b_Md_isTwice 136 = .ok (.iconst 0, 1) := by decide +kernel
theorem d_Md_isTwice_137 : decode b_Md_isTwice 137 = .ok (.istore 4, 2) := by decide +kernel
theorem d_Md_isTwice_139 : decode b_Md_isTwice 139 = .ok (.iinc 5 1, 3) := by decide +kernel
theorem d_Md_isTwice_142 : decode b_Md_isTwice 142 = .ok (.goto (-121), 3) := by decide +kernel
theorem d_Md_isTwice_145 : decode b_Md_isTwice 145 = .ok (.sipush 1024, 3) := by decide +kernel
theorem d_Md_isTwice_148 : decode b_Md_isTwice 148 = .ok (.iload_n 1, 1) := by decide +kernel
theorem d_Md_isTwice_149 : decode b_Md_isTwice 149 = .ok (.imul, 1) := by decide +kernel
theorem d_Md_isTwice_150 : decode b_Md_isTwice 150 = .ok (.istore 5, 2) := by decide +kernel
theorem d_Md_isTwice_152 : decode b_Md_isTwice 152 = .ok (.iload 5, 2) := by decide +kernel
theorem d_Md_isTwice_154 : decode b_Md_isTwice 154 = .ok (.sipush 1024, 3) := by decide +kernel
theorem d_Md_isTwice_157 : decode b_Md_isTwice 157 = .ok (.iload_n 1, 1) := by decide +kernel
theorem d_Md_isTwice_158 : decode b_Md_isTwice 158 = .ok (.imul, 1) := by decide +kernel
theorem d_Md_isTwice_159 : decode b_Md_isTwice 159 = .ok (.aload_n 0, 1) := by decide +kernel
theorem d_Md_isTwice_160 : decode b_Md_isTwice 160 = .ok (.getfield 149, 3) := by decide +kernel
theorem d_Md_isTwice_163 : decode b_Md_isTwice 163 = .ok (.iload_n 1, 1) := by decide +kernel
theorem d_Md_isTwice_164 : decode b_Md_isTwice 164 = .ok (.iaload, 1) := by decide +kernel
theorem d_Md_isTwice_165 : decode b_Md_isTwice 165 = .ok (.iadd, 1) := by decide +kernel
theorem d_Md_isTwice_166 : decode b_Md_isTwice 166 = .ok (.if_icmp .ge 97, 3) := by decide +kernel
theorem d_Md_isTwice_169 : decode b_Md_isTwice 169 = .ok (.aload_n 0, 1) := by decide +kernel
theorem d_Md_isTwice_170 : decode b_Md_isTwice 170 = .ok (.getfield 152, 3) := by decide +kernel
theorem d_Md_isTwice_173 : decode b_Md_isTwice 173 = .ok (.iload 5, 2) := by decide +kernel
theorem d_Md_isTwice_175 : decode b_Md_isTwice 175 = .ok (.iaload, 1) := by decide +kernel
theorem d_Md_isTwice_176 : decode b_Md_isTwice 176 = .ok (.iload_n 2, 1) := by decide +kernel
theorem d_Md_isTwice_177 : decode b_Md_isTwice 177 = .ok (.if_icmp .ne 7, 3) := by decide +kernel
theorem d_Md_isTwice_180 : decode b_Md_isTwice 180 = .ok (.iconst 1, 1) := by decide +kernel
theorem d_Md_isTwice_181 : decode b_Md_isTwice 181 = .ok (.goto 4, 3) := by decide +kernel
theorem d_Md_isTwice_184 : decode b_Md_isTwice 184 = .ok (.iconst 0, 1) := by decide +kernel
theorem d_Md_isTwice_185 : decode b_Md_isTwice 185 = .ok (.istore 6, 2) := by decide +kernel
theorem d_Md_isTwice_187 : decode b_Md_isTwice 187 = .ok (.iconst 0, 1) := by decide +kernel
theorem d_Md_isTwice_188 : decode b_Md_isTwice 188 = .ok (.istore 7, 2) := by decide +kernel
theorem d_Md_isTwice_190 : decode b_Md_isTwice 190 = .ok (.iload 7, 2) := by decide +kernel
theorem d_Md_isTwice_192 : decode b_Md_isTwice 192 = .ok (.bipush 10, 2) := by decide +kernel
theorem d_Md_isTwice_194 : decode b_Md_isTwice 194 = .ok (.if_icmp .ge 46, 3) := by decide +kernel
theorem d_Md_isTwice_197 : decode b_Md_isTwice 197 = .ok (.iload 6, 2) := by decide +kernel
theorem d_Md_isTwice_199 : decode b_Md_isTwice 199 = .ok (.ifCond .eq 32, 3) := by decide +kernel
theorem d_Md_isTwice_202 : decode b_Md_isTwice 202 = .ok (.aload_n 0, 1) := by decide +kernel
theorem d_Md_isTwice_203 : decode b_Md_isTwice 203 = .ok (.getfield 156, 3) := by decide +kernel
theorem d_Md_isTwice_206 : decode b_Md_isTwice 206 = .ok (.bipush 10, 2) := by decide +kernel
theorem d_Md_isTwice_208 : decode b_Md_isTwice 208 = .ok (.iload 5, 2) := by decide +kernel
theorem d_Md_isTwice_210 : decode b_Md_isTwice 210 = .ok (.imul, 1) := by decide +kernel
theorem d_Md_isTwice_211 : decode b_Md_isTwice 211 = .ok (.iload 7, 2) := by decide +kernel
theorem d_Md_isTwice_213 : decode b_Md_isTwice 213 = .ok (.iadd, 1) := by decide +kernel
theorem d_Md_isTwice_214 : decode b_Md_isTwice 214 = .ok (.iaload, 1) := by decide +kernel
theorem d_Md_isTwice_215 : decode b_Md_isTwice 215 = .ok (.aload_n 0, 1) := by decide +kernel
theorem d_Md_isTwice_216 : decode b_Md_isTwice 216 = .ok (.getfield 166, 3) := by decide +kernel
theorem d_Md_isTwice_219 : decode b_Md_isTwice 219 = .ok (.iload_n 3, 1) := by decide +kernel
theorem d_Md_isTwice_220 : decode b_Md_isTwice 220 = .ok (.iload 7, 2) := by decide +kernel
theorem d_Md_isTwice_222 : decode b_Md_isTwice 222 = .ok (.iadd, 1) := by decide +kernel
theorem d_Md_isTwice_223 : decode b_Md_isTwice 223 = .ok (.iaload, 1) := by decide +kernel
theorem d_Md_isTwice_224 : decode b_Md_isTwice 224 = .ok (.if_icmp .ne 7, 3) := by decide +kernel
theorem d_Md_isTwice_227 : decode b_Md_isTwice 227 = .ok (.iconst 1, 1) := by decide +kernel
theorem d_Md_isTwice_228 : decode b_Md_isTwice 228 = .ok (.goto 4, 3) := by decide +kernel
theorem d_Md_isTwice_231 : decode b_Md_isTwice 231 = .ok (.iconst 0, 1) := by decide +kernel
theorem d_Md_isTwice_232 : decode b_Md_isTwice 232 = .ok (.istore 6, 2) := by decide +kernel
theorem d_Md_isTwice_234 : decode b_Md_isTwice 234 = .ok (.iinc 7 1, 3) := by decide +kernel
theorem d_Md_isTwice_237 : decode b_Md_isTwice 237 = .ok (.goto (-47), 3) := by decide +kernel
theorem d_Md_isTwice_240 : decode b_Md_isTwice 240 = .ok (.iload 4, 2) := by decide +kernel
theorem d_Md_isTwice_242 : decode b_Md_isTwice 242 = .ok (.ifCond .ne 8, 3) := by decide +kernel
theorem d_Md_isTwice_245 : decode b_Md_isTwice 245 = .ok (.iload 6, 2) := by decide +kernel
theorem d_Md_isTwice_247 : decode b_Md_isTwice 247 = .ok (.ifCond .eq 7, 3) := by decide +kernel
theorem d_Md_isTwice_250 : decode b_Md_isTwice 250 = .ok (.iconst 1, 1) := by decide +kernel
theorem d_Md_isTwice_251 : decode b_Md_isTwice 251 = .ok (.goto 4, 3) := by decide +kernel
theorem d_Md_isTwice_254 : decode b_Md_isTwice 254 = .ok (.iconst 0, 1) := by decide +kernel
theorem d_Md_isTwice_255 : decode b_Md_isTwice 255 = .ok (.istore 4, 2) := by decide +kernel
theorem d_Md_isTwice_257 : decode b_Md_isTwice 257 = .ok (.iinc 5 1, 3) := by decide +kernel
theorem d_Md_isTwice_260 : decode b_Md_isTwice 260 = .ok (.goto (-108), 3) := by decide +kernel
theorem d_Md_isTwice_263 : decode b_Md_isTwice 263 = .ok (.iload 4, 2) := by decide +kernel
theorem d_Md_isTwice_265 : decode b_Md_isTwice 265 = .ok (.ireturn, 1) := by decide +kernel
