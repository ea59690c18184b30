theorem d_Md_modulo_0 : decode b_Md_modulo 0 = .ok (.iload_n 0, 1) := by decide +kernel
theorem d_Md_modulo_1 : decode b_Md_modulo 1 = .ok (.iload_n 1, 1) := by decide +kernel
theorem d_Md_modulo_2 : decode b_Md_modulo 2 = .ok (.irem, 1) := by decide +kernel
theorem d_Md_modulo_3 : decode b_Md_modulo 3 = .ok (.iload_n 1, 1) := by decide +kernel
theorem d_Md_modulo_4 : decode b_Md_modulo 4 = .ok (.iadd, 1) := by decide +kernel
theorem d_Md_modulo_5 : decode b_Md_modulo 5 = .ok (.iload_n 1, 1) := by decide +kernel
theorem d_Md_modulo_6 : decode b_Md_modulo 6 = .ok (.irem, 1) := by decide +kernel
theorem d_Md_modulo_7 : decode b_Md_modulo 7 = .ok (.ireturn, 1) := by decide +kernel
theorem d_Md_thrown_0 : decode b_Md_thrown 0 = .ok (.aload_n 0, 1) := by decide +kernel
theorem d_Md_thrown_1 : decode b_Md_thrown 1 = .ok (.getfield 189, 3) := by decide +kernel
theorem d_Md_thrown_4 : decode b_Md_thrown 4 = .ok (.ireturn, 1) := by decide +kernel
theorem d_Md_fail_0 : decode b_Md_fail 0 = .ok (.aload_n 0, 1) := by decide +kernel
theorem d_Md_fail_1 : decode b_Md_fail 1 = .ok (.iload_n 1, 1) := by decide +kernel
theorem d_Md_fail_2 : decode b_Md_fail 2 = .ok (.putfield 189, 3) := by decide +kernel
theorem d_Md_fail_5 : decode b_Md_fail 5 = .ok (.iconst 0, 1) := by decide +kernel
theorem d_Md_fail_6 : decode b_Md_fail 6 = .ok (.ireturn, 1) := by decide +kernel
theorem d_Md_byteOf_0 : decode b_Md_byteOf 0 = .ok (.iload_n 0, 1) := by decide +kernel
theorem d_Md_byteOf_1 : decode b_Md_byteOf 1 = .ok (.bipush 24, 2) := by decide +kernel
theorem d_Md_byteOf_3 : decode b_Md_byteOf 3 = .ok (.bipush 8, 2) := by decide +kernel
theorem d_Md_byteOf_5 : decode b_Md_byteOf 5 = .ok (.iload_n 1, 1) := by decide +kernel
theorem d_Md_byteOf_6 : decode b_Md_byteOf 6 = .ok (.imul, 1) := by decide +kernel
theorem d_Md_byteOf_7 : decode b_Md_byteOf 7 = .ok (.isub, 1) := by decide +kernel
theorem d_Md_byteOf_8 : decode b_Md_byteOf 8 = .ok (.ishr, 1) := by decide +kernel
theorem d_Md_byteOf_9 : decode b_Md_byteOf 9 = .ok (.sipush 255, 3) := by decide +kernel
theorem d_Md_byteOf_12 : decode b_Md_byteOf 12 = .ok (.iand, 1) := by decide +kernel
theorem d_Md_byteOf_13 : decode b_Md_byteOf 13 = .ok (.ireturn, 1) := by decide +kernel
theorem d_Md_turned_0 : decode b_Md_turned 0 = .ok (.iload_n 0, 1) := by decide +kernel
theorem d_Md_turned_1 : decode b_Md_turned 1 = .ok (.iload_n 1, 1) := by decide +kernel
theorem d_Md_turned_2 : decode b_Md_turned 2 = .ok (.iushr, 1) := by decide +kernel
theorem d_Md_turned_3 : decode b_Md_turned 3 = .ok (.iload_n 0, 1) := by decide +kernel
theorem d_Md_turned_4 : decode b_Md_turned 4 = .ok (.bipush 32, 2) := by decide +kernel
theorem d_Md_turned_6 : decode b_Md_turned 6 = .ok (.iload_n 1, 1) := by decide +kernel
theorem d_Md_turned_7 : decode b_Md_turned 7 = .ok (.isub, 1) := by decide +kernel
theorem d_Md_turned_8 : decode b_Md_turned 8 = .ok (.ishl, 1) := by decide +kernel
theorem d_Md_turned_9 : decode b_Md_turned 9 = .ok (.ior, 1) := by decide +kernel
theorem d_Md_turned_10 : decode b_Md_turned 10 = .ok (.ireturn, 1) := by decide +kernel
theorem d_Md_within_0 : decode b_Md_within 0 = .ok (.iload_n 0, 1) := by decide +kernel
theorem d_Md_within_1 : decode b_Md_within 1 = .ok (.iload_n 1, 1) := by decide +kernel
theorem d_Md_within_2 : decode b_Md_within 2 = .ok (.if_icmp .lt 12, 3) := by decide +kernel
theorem d_Md_within_5 : decode b_Md_within 5 = .ok (.iload_n 0, 1) := by decide +kernel
theorem d_Md_within_6 : decode b_Md_within 6 = .ok (.iload_n 2, 1) := by decide +kernel
theorem d_Md_within_7 : decode b_Md_within 7 = .ok (.if_icmp .gt 7, 3) := by decide +kernel
theorem d_Md_within_10 : decode b_Md_within 10 = .ok (.iconst 1, 1) := by decide +kernel
theorem d_Md_within_11 : decode b_Md_within 11 = .ok (.goto 4, 3) := by decide +kernel
theorem d_Md_within_14 : decode b_Md_within 14 = .ok (.iconst 0, 1) := by decide +kernel
theorem d_Md_within_15 : decode b_Md_within 15 = .ok (.ireturn, 1) := by decide +kernel
theorem d_Md_interval_0 : decode b_Md_interval 0 = .ok (.aload_n 0, 1) := by decide +kernel
theorem d_Md_interval_1 : decode b_Md_interval 1 = .ok (.getfield 217, 3) := by decide +kernel
theorem d_Md_interval_4 : decode b_Md_interval 4 = .ok (.aload_n 0, 1) := by decide +kernel
theorem d_Md_interval_5 : decode b_Md_interval 5 = .ok (.getfield 183, 3) := by decide +kernel
theorem d_Md_interval_8 : decode b_Md_interval 8 = .ok (.idiv, 1) := by decide +kernel
theorem d_Md_interval_9 : decode b_Md_interval 9 = .ok (.iconst 1, 1) := by decide +kernel
theorem d_Md_interval_10 : decode b_Md_interval 10 = .ok (.iadd, 1) := by decide +kernel
theorem d_Md_interval_11 : decode b_Md_interval 11 = .ok (.ireturn, 1) := by decide +kernel
theorem d_Md_chainOf_0 : decode b_Md_chainOf 0 = .ok (.iload_n 0, 1) := by decide +kernel
theorem d_Md_chainOf_1 : decode b_Md_chainOf 1 = .ok (.iconst 1, 1) := by decide +kernel
theorem d_Md_chainOf_2 : decode b_Md_chainOf 2 = .ok (.isub, 1) := by decide +kernel
theorem d_Md_chainOf_3 : decode b_Md_chainOf 3 = .ok (.bipush 64, 2) := by decide +kernel
theorem d_Md_chainOf_5 : decode b_Md_chainOf 5 = .ok (.idiv, 1) := by decide +kernel
theorem d_Md_chainOf_6 : decode b_Md_chainOf 6 = .ok (.ireturn, 1) := by decide +kernel
theorem d_Md_keyAt_0 : decode b_Md_keyAt 0 = .ok (.aload_n 0, 1) := by decide +kernel
theorem d_Md_keyAt_1 : decode b_Md_keyAt 1 = .ok (.getfield 112, 3) := by decide +kernel
theorem d_Md_keyAt_4 : decode b_Md_keyAt 4 = .ok (.sipush 1300, 3) := by decide +kernel
theorem d_Md_keyAt_7 : decode b_Md_keyAt 7 = .ok (.iload_n 1, 1) := by decide +kernel
theorem d_Md_keyAt_8 : decode b_Md_keyAt 8 = .ok (.imul, 1) := by decide +kernel
theorem d_Md_keyAt_9 : decode b_Md_keyAt 9 = .ok (.bipush 20, 2) := by decide +kernel
theorem d_Md_keyAt_11 : decode b_Md_keyAt 11 = .ok (.iload_n 2, 1) := by decide +kernel
theorem d_Md_keyAt_12 : decode b_Md_keyAt 12 = .ok (.imul, 1) := by decide +kernel
theorem d_Md_keyAt_13 : decode b_Md_keyAt 13 = .ok (.iadd, 1) := by decide +kernel
theorem d_Md_keyAt_14 : decode b_Md_keyAt 14 = .ok (.iload_n 3, 1) := by decide +kernel
theorem d_Md_keyAt_15 : decode b_Md_keyAt 15 = .ok (.iadd, 1) := by decide +kernel
theorem d_Md_keyAt_16 : decode b_Md_keyAt 16 = .ok (.iaload, 1) := by decide +kernel
theorem d_Md_keyAt_17 : decode b_Md_keyAt 17 = .ok (.ireturn, 1) := by decide +kernel
theorem d_Md_block_0 : decode b_Md_block 0 = .ok (.iconst 0, 1) := by decide +kernel
theorem d_Md_block_1 : decode b_Md_block 1 = .ok (.istore_n 2, 1) := by decide +kernel
theorem d_Md_block_2 : decode b_Md_block 2 = .ok (.iload_n 2, 1) := by decide +kernel
theorem d_Md_block_3 : decode b_Md_block 3 = .ok (.bipush 64, 2) := by decide +kernel
theorem d_Md_block_5 : decode b_Md_block 5 = .ok (.if_icmp .ge 157, 3) := by decide +kernel
theorem d_Md_block_8 : decode b_Md_block 8 = .ok (.iload_n 2, 1) := by decide +kernel
theorem d_Md_block_9 : decode b_Md_block 9 = .ok (.bipush 16, 2) := by decide +kernel
theorem d_Md_block_11 : decode b_Md_block 11 = .ok (.if_icmp .ge 60, 3) := by decide +kernel
theorem d_Md_block_14 : decode b_Md_block 14 = .ok (.iload_n 1, 1) := by decide +kernel
theorem d_Md_block_15 : decode b_Md_block 15 = .ok (.iconst 4, 1) := by decide +kernel
theorem d_Md_block_16 : decode b_Md_block 16 = .ok (.iload_n 2, 1) := by decide +kernel
theorem d_Md_block_17 : decode b_Md_block 17 = .ok (.imul, 1) := by decide +kernel
theorem d_Md_block_18 : decode b_Md_block 18 = .ok (.iadd, 1) := by decide +kernel
theorem d_Md_block_19 : decode b_Md_block 19 = .ok (.istore_n 3, 1) := by decide +kernel
theorem d_Md_block_20 : decode b_Md_block 20 = .ok (.aload_n 0, 1) := by decide +kernel
theorem d_Md_block_21 : decode b_Md_block 21 = .ok (.getfield 88, 3) := by decide +kernel
theorem d_Md_block_24 : decode b_Md_block 24 = .ok (.iload_n 2, 1) := by decide +kernel
theorem d_Md_block_25 : decode b_Md_block 25 = .ok (.aload_n 0, 1) := by decide +kernel
theorem d_Md_block_26 : decode b_Md_block 26 = .ok (.getfield 97, 3) := by decide +kernel
theorem d_Md_block_29 : decode b_Md_block 29 = .ok (.iload_n 3, 1) := by decide +kernel
theorem d_Md_block_30 : decode b_Md_block 30 = .ok (.iaload, 1) := by decide +kernel
theorem d_Md_block_31 : decode b_Md_block 31 = .ok (.bipush 24, 2) := by decide +kernel
theorem d_Md_block_33 : decode b_Md_block 33 = .ok (.ishl, 1) := by decide +kernel
theorem d_Md_block_34 : decode b_Md_block 34 = .ok (.aload_n 0, 1) := by decide +kernel
theorem d_Md_block_35 : decode b_Md_block 35 = .ok (.getfield 97, 3) := by decide +kernel
theorem d_Md_block_38 : decode b_Md_block 38 = .ok (.iload_n 3, 1) := by decide +kernel
theorem d_Md_block_39 : decode b_Md_block 39 = .ok (.iconst 1, 1) := by decide +kernel
theorem d_Md_block_40 : decode b_Md_block 40 = .ok (.iadd, 1) := by decide +kernel
theorem d_Md_block_41 : decode b_Md_block 41 = .ok (.iaload, 1) := by decide +kernel
theorem d_Md_block_42 : decode b_Md_block 42 = .ok (.bipush 16, 2) := by decide +kernel
theorem d_Md_block_44 : decode b_Md_block 44 = .ok (.ishl, 1) := by decide +kernel
theorem d_Md_block_45 : decode b_Md_block 45 = .ok (.ior, 1) := by decide +kernel
theorem d_Md_block_46 : decode b_Md_block 46 = .ok (.aload_n 0, 1) := by decide +kernel
theorem d_Md_block_47 : decode b_Md_block 47 = .ok (.getfield 97, 3) := by decide +kernel
theorem d_Md_block_50 : decode b_Md_block 50 = .ok (.iload_n 3, 1) := by decide +kernel
theorem d_Md_block_51 : decode b_Md_block 51 = .ok (.iconst 2, 1) := by decide +kernel
theorem d_Md_block_52 : decode b_Md_block 52 = .ok (.iadd, 1) := by decide +kernel
theorem d_Md_block_53 : decode b_Md_block 53 = .ok (.iaload, 1) := by decide +kernel
theorem d_Md_block_54 : decode b_Md_block 54 = .ok (.bipush 8, 2) := by decide +kernel
theorem d_Md_block_56 : decode b_Md_block 56 = .ok (.ishl, 1) := by decide +kernel
theorem d_Md_block_57 : decode b_Md_block 57 = .ok (.ior, 1) := by decide +kernel
theorem d_Md_block_58 : decode b_Md_block 58 = .ok (.aload_n 0, 1) := by decide +kernel
theorem d_Md_block_59 : decode b_Md_block 59 = .ok (.getfield 97, 3) := by decide +kernel
theorem d_Md_block_62 : decode b_Md_block 62 = .ok (.iload_n 3, 1) := by decide +kernel
theorem d_Md_block_63 : decode b_Md_block 63 = .ok (.iconst 3, 1) := by decide +kernel
theorem d_Md_block_64 : decode b_Md_block 64 = .ok (.iadd, 1) := by decide +kernel
theorem d_Md_block_65 : decode b_Md_block 65 = .ok (.iaload, 1) := by decide +kernel
theorem d_Md_block_66 : decode b_Md_block 66 = .ok (.ior, 1) := by decide +kernel
theorem d_Md_block_67 : decode b_Md_block 67 = .ok (.iastore, 1) := by decide +kernel
theorem d_Md_block_68 : decode b_Md_block 68 = .ok (.goto 88, 3) := by decide +kernel
theorem d_Md_block_71 : decode b_Md_block 71 = .ok (.aload_n 0, 1) := by decide +kernel
theorem d_Md_block_72 : decode b_Md_block 72 = .ok (.getfield 88, 3) := by decide +kernel
theorem d_Md_block_75 : decode b_Md_block 75 = .ok (.iload_n 2, 1) := by decide +kernel
theorem d_Md_block_76 : decode b_Md_block 76 = .ok (.bipush 15, 2) := by decide +kernel
theorem d_Md_block_78 : decode b_Md_block 78 = .ok (.isub, 1) := by decide +kernel
theorem d_Md_block_79 : decode b_Md_block 79 = .ok (.iaload, 1) := by decide +kernel
theorem d_Md_block_80 : decode b_Md_block 80 = .ok (.istore_n 3, 1) := by decide +kernel
theorem d_Md_block_81 : decode b_Md_block 81 = .ok (.aload_n 0, 1) := by decide +kernel
theorem d_Md_block_82 : decode b_Md_block 82 = .ok (.getfield 88, 3) := by decide +kernel
theorem d_Md_block_85 : decode b_Md_block 85 = .ok (.iload_n 2, 1) := by decide +kernel
theorem d_Md_block_86 : decode b_Md_block 86 = .ok (.iconst 2, 1) := by decide +kernel
theorem d_Md_block_87 : decode b_Md_block 87 = .ok (.isub, 1) := by decide +kernel
theorem d_Md_block_88 : decode b_Md_block 88 = .ok (.iaload, 1) := by decide +kernel
theorem d_Md_block_89 : decode b_Md_block 89 = .ok (.istore 4, 2) := by decide +kernel
theorem d_Md_block_91 : decode b_Md_block 91 = .ok (.aload_n 0, 1) := by decide +kernel
theorem d_Md_block_92 : decode b_Md_block 92 = .ok (.getfield 88, 3) := by decide +kernel
theorem d_Md_block_95 : decode b_Md_block 95 = .ok (.iload_n 2, 1) := by decide +kernel
theorem d_Md_block_96 : decode b_Md_block 96 = .ok (.aload_n 0, 1) := by decide +kernel
theorem d_Md_block_97 : decode b_Md_block 97 = .ok (.getfield 88, 3) := by decide +kernel
theorem d_Md_block_100 : decode b_Md_block 100 = .ok (.iload_n 2, 1) := by decide +kernel
theorem d_Md_block_101 : decode b_Md_block 101 = .ok (.bipush 16, 2) := by decide +kernel
theorem d_Md_block_103 : decode b_Md_block 103 = .ok (.isub, 1) := by decide +kernel
theorem d_Md_block_104 : decode b_Md_block 104 = .ok (.iaload, 1) := by decide +kernel
theorem d_Md_block_105 : decode b_Md_block 105 = .ok (.aload_n 0, 1) := by decide +kernel
theorem d_Md_block_106 : decode b_Md_block 106 = .ok (.getfield 88, 3) := by decide +kernel
theorem d_Md_block_109 : decode b_Md_block 109 = .ok (.iload_n 2, 1) := by decide +kernel
theorem d_Md_block_110 : decode b_Md_block 110 = .ok (.bipush 7, 2) := by decide +kernel
theorem d_Md_block_112 : decode b_Md_block 112 = .ok (.isub, 1) := by decide +kernel
theorem d_Md_block_113 : decode b_Md_block 113 = .ok (.iaload, 1) := by decide +kernel
theorem d_Md_block_114 : decode b_Md_block 114 = .ok (.iadd, 1) := by decide +kernel
theorem d_Md_block_115 : decode b_Md_block 115 = .ok (.iload_n 3, 1) := by decide +kernel
theorem d_Md_block_116 : decode b_Md_block 116 = .ok (.bipush 7, 2) := by decide +kernel
theorem d_Md_block_118 : decode b_Md_block 118 = .ok (.invokestatic 192, 3) := by decide +kernel
theorem d_Md_block_121 : decode b_Md_block 121 = .ok (.iload_n 3, 1) := by decide +kernel
theorem d_Md_block_122 : decode b_Md_block 122 = .ok (.bipush 18, 2) := by decide +kernel
theorem d_Md_block_124 : decode b_Md_block 124 = .ok (.invokestatic 192, 3) := by decide +kernel
theorem d_Md_block_127 : decode b_Md_block 127 = .ok (.ixor, 1) := by decide +kernel
theorem d_Md_block_128 : decode b_Md_block 128 = .ok (.iload_n 3, 1) := by decide +kernel
theorem d_Md_block_129 : decode b_Md_block 129 = .ok (.iconst 3, 1) := by decide +kernel
theorem d_Md_block_130 : decode b_Md_block 130 = .ok (.iushr, 1) := by decide +kernel
theorem d_Md_block_131 : decode b_Md_block 131 = .ok (.ixor, 1) := by decide +kernel
theorem d_Md_block_132 : decode b_Md_block 132 = .ok (.iadd, 1) := by decide +kernel
theorem d_Md_block_133 : decode b_Md_block 133 = .ok (.iload 4, 2) := by decide +kernel
theorem d_Md_block_135 : decode b_Md_block 135 = .ok (.bipush 17, 2) := by decide +kernel
theorem d_Md_block_137 : decode b_Md_block 137 = .ok (.invokestatic 192, 3) := by decide +kernel
theorem d_Md_block_140 : decode b_Md_block 140 = .ok (.iload 4, 2) := by decide +kernel
theorem d_Md_block_142 : decode b_Md_block 142 = .ok (.bipush 19, 2) := by decide +kernel
theorem d_Md_block_144 : decode b_Md_block 144 = .ok (.invokestatic 192, 3) := by decide +kernel
theorem d_Md_block_147 : decode b_Md_block 147 = .ok (.ixor, 1) := by decide +kernel
theorem d_Md_block_148 : decode b_Md_block 148 = .ok (.iload 4, 2) := by decide +kernel
theorem d_Md_block_150 : decode b_Md_block 150 = .ok (.bipush 10, 2) := by decide +kernel
theorem d_Md_block_152 : decode b_Md_block 152 = .ok (.iushr, 1) := by decide +kernel
theorem d_Md_block_153 : decode b_Md_block 153 = .ok (.ixor, 1) := by decide +kernel
theorem d_Md_block_154 : decode b_Md_block 154 = .ok (.iadd, 1) := by decide +kernel
theorem d_Md_block_155 : decode b_Md_block 155 = .ok (.iastore, 1) := by decide +kernel
theorem d_Md_block_156 : decode b_Md_block 156 = .ok (.iinc 2 1, 3) := by decide +kernel
theorem d_Md_block_159 : decode b_Md_block 159 = .ok (.goto (-157), 3) := by decide +kernel
theorem d_Md_block_162 : decode b_Md_block 162 = .ok (.iconst 0, 1) := by decide +kernel
theorem d_Md_block_163 : decode b_Md_block 163 = .ok (.istore_n 2, 1) := by decide +kernel
theorem d_Md_block_164 : decode b_Md_block 164 = .ok (.iload_n 2, 1) := by decide +kernel
theorem d_Md_block_165 : decode b_Md_block 165 = .ok (.bipush 8, 2) := by decide +kernel
theorem d_Md_block_167 : decode b_Md_block 167 = .ok (.if_icmp .ge 21, 3) := by decide +kernel
theorem d_Md_block_170 : decode b_Md_block 170 = .ok (.aload_n 0, 1) := by decide +kernel
theorem d_Md_block_171 : decode b_Md_block 171 = .ok (.getfield 94, 3) := by decide +kernel
theorem d_Md_block_174 : decode b_Md_block 174 = .ok (.iload_n 2, 1) := by decide +kernel
theorem d_Md_block_175 : decode b_Md_block 175 = .ok (.aload_n 0, 1) := by decide +kernel
theorem d_Md_block_176 : decode b_Md_block 176 = .ok (.getfield 91, 3) := by decide +kernel
theorem d_Md_block_179 : decode b_Md_block 179 = .ok (.iload_n 2, 1) := by decide +kernel
theorem d_Md_block_180 : decode b_Md_block 180 = .ok (.iaload, 1) := by decide +kernel
theorem d_Md_block_181 : decode b_Md_block 181 = .ok (.iastore, 1) := by decide +kernel
theorem d_Md_block_182 : decode b_Md_block 182 = .ok (.iinc 2 1, 3) := by decide +kernel
theorem d_Md_block_185 : decode b_Md_block 185 = .ok (.goto (-21), 3) := by decide +kernel
theorem d_Md_block_188 : decode b_Md_block 188 = .ok (.iconst 0, 1) := by decide +kernel
theorem d_Md_block_189 : decode b_Md_block 189 = .ok (.istore_n 2, 1) := by decide +kernel
theorem d_Md_block_190 : decode b_Md_block 190 = .ok (.iload_n 2, 1) := by decide +kernel
theorem d_Md_block_191 : decode b_Md_block 191 = .ok (.bipush 64, 2) := by decide +kernel
theorem d_Md_block_193 : decode b_Md_block 193 = .ok (.if_icmp .ge 200, 3) := by decide +kernel
theorem d_Md_block_196 : decode b_Md_block 196 = .ok (.aload_n 0, 1) := by decide +kernel
theorem d_Md_block_197 : decode b_Md_block 197 = .ok (.getfield 94, 3) := by decide +kernel
theorem d_Md_block_200 : decode b_Md_block 200 = .ok (.iconst 0, 1) := by decide +kernel
theorem d_Md_block_201 : decode b_Md_block 201 = .ok (.iaload, 1) := by decide +kernel
theorem d_Md_block_202 : decode b_Md_block 202 = .ok (.istore_n 3, 1) := by decide +kernel
theorem d_Md_block_203 : decode b_Md_block 203 = .ok (.aload_n 0, 1) := by decide +kernel
theorem d_Md_block_204 : decode b_Md_block 204 = .ok (.getfield 94, 3) := by decide +kernel
theorem d_Md_block_207 : decode b_Md_block 207 = .ok (.iconst 4, 1) := by decide +kernel
theorem d_Md_block_208 : decode b_Md_block 208 = .ok (.iaload, 1) := by decide +kernel
theorem d_Md_block_209 : decode b_Md_block 209 = .ok (.istore 4, 2) := by decide +kernel
theorem d_Md_block_211 : decode b_Md_block 211 = .ok (.aload_n 0, 1) := by decide +kernel
theorem d_Md_block_212 : decode b_Md_block 212 = .ok (.getfield 94, 3) := by decide +kernel
theorem d_Md_block_215 : decode b_Md_block 215 = .ok (.bipush 7, 2) := by decide +kernel
theorem d_Md_block_217 : decode b_Md_block 217 = .ok (.iaload, 1) := by decide +kernel
theorem d_Md_block_218 : decode b_Md_block 218 = .ok (.iload 4, 2) := by decide +kernel
theorem d_Md_block_220 : decode b_Md_block 220 = .ok (.bipush 6, 2) := by decide +kernel
theorem d_Md_block_222 : decode b_Md_block 222 = .ok (.invokestatic 192, 3) := by decide +kernel
theorem d_Md_block_225 : decode b_Md_block 225 = .ok (.iload 4, 2) := by decide +kernel
theorem d_Md_block_227 : decode b_Md_block 227 = .ok (.bipush 11, 2) := by decide +kernel
theorem d_Md_block_229 : decode b_Md_block 229 = .ok (.invokestatic 192, 3) := by decide +kernel
theorem d_Md_block_232 : decode b_Md_block 232 = .ok (.ixor, 1) := by decide +kernel
theorem d_Md_block_233 : decode b_Md_block 233 = .ok (.iload 4, 2) := by decide +kernel
theorem d_Md_block_235 : decode b_Md_block 235 = .ok (.bipush 25, 2) := by decide +kernel
theorem d_Md_block_237 : decode b_Md_block 237 = .ok (.invokestatic 192, 3) := by decide +kernel
theorem d_Md_block_240 : decode b_Md_block 240 = .ok (.ixor, 1) := by decide +kernel
theorem d_Md_block_241 : decode b_Md_block 241 = .ok (.iadd, 1) := by decide +kernel
theorem d_Md_block_242 : decode b_Md_block 242 = .ok (.iload 4, 2) := by decide +kernel
theorem d_Md_block_244 : decode b_Md_block 244 = .ok (.aload_n 0, 1) := by decide +kernel
theorem d_Md_block_245 : decode b_Md_block 245 = .ok (.getfield 94, 3) := by decide +kernel
theorem d_Md_block_248 : decode b_Md_block 248 = .ok (.iconst 5, 1) := by decide +kernel
theorem d_Md_block_249 : decode b_Md_block 249 = .ok (.iaload, 1) := by decide +kernel
theorem d_Md_block_250 : decode b_Md_block 250 = .ok (.iand, 1) := by decide +kernel
theorem d_Md_block_251 : decode b_Md_block 251 = .ok (.iload 4, 2) := by decide +kernel
theorem d_Md_block_253 : decode b_Md_block 253 = .ok (.iconst (-1), 1) := by decide +kernel
theorem d_Md_block_254 : decode b_Md_block 254 = .ok (.ixor, 1) := by decide +kernel
theorem d_Md_block_255 : decode b_Md_block 255 = .ok (.aload_n 0, 1) := by decide +kernel
theorem d_Md_block_256 : decode b_Md_block 256 = .ok (.getfield 94, 3) := by decide +kernel
theorem d_Md_block_259 : decode b_Md_block 259 = .ok (.bipush 6, 2) := by decide +kernel
theorem d_Md_block_261 : decode b_Md_block 261 = .ok (.iaload, 1) := by decide +kernel
theorem d_Md_block_262 : decode b_Md_block 262 = .ok (.iand, 1) := by decide +kernel
theorem d_Md_block_263 : decode b_Md_block 263 = .ok (.ior, 1) := by decide +kernel
theorem d_Md_block_264 : decode b_Md_block 264 = .ok (.iadd, 1) := by decide +kernel
theorem d_Md_block_265 : decode b_Md_block 265 = .ok (.aload_n 0, 1) := by decide +kernel
theorem d_Md_block_266 : decode b_Md_block 266 = .ok (.getfield 71, 3) := by decide +kernel
theorem d_Md_block_269 : decode b_Md_block 269 = .ok (.iload_n 2, 1) := by decide +kernel
theorem d_Md_block_270 : decode b_Md_block 270 = .ok (.iaload, 1) := by decide +kernel
theorem d_Md_block_271 : decode b_Md_block 271 = .ok (.iadd, 1) := by decide +kernel
theorem d_Md_block_272 : decode b_Md_block 272 = .ok (.aload_n 0, 1) := by decide +kernel
theorem d_Md_block_273 : decode b_Md_block 273 = .ok (.getfield 88, 3) := by decide +kernel
theorem d_Md_block_276 : decode b_Md_block 276 = .ok (.iload_n 2, 1) := by decide +kernel
theorem d_Md_block_277 : decode b_Md_block 277 = .ok (.iaload, 1) := by decide +kernel
theorem d_Md_block_278 : decode b_Md_block 278 = .ok (.iadd, 1) := by decide +kernel
theorem d_Md_block_279 : decode b_Md_block 279 = .ok (.istore 5, 2) := by decide +kernel
theorem d_Md_block_281 : decode b_Md_block 281 = .ok (.iload_n 3, 1) := by decide +kernel
theorem d_Md_block_282 : decode b_Md_block 282 = .ok (.iconst 2, 1) := by decide +kernel
theorem d_Md_block_283 : decode b_Md_block 283 = .ok (.invokestatic 192, 3) := by decide +kernel
theorem d_Md_block_286 : decode b_Md_block 286 = .ok (.iload_n 3, 1) := by decide +kernel
theorem d_Md_block_287 : decode b_Md_block 287 = .ok (.bipush 13, 2) := by decide +kernel
theorem d_Md_block_289 : decode b_Md_block 289 = .ok (.invokestatic 192, 3) := by decide +kernel
theorem d_Md_block_292 : decode b_Md_block 292 = .ok (.ixor, 1) := by decide +kernel
theorem d_Md_block_293 : decode b_Md_block 293 = .ok (.iload_n 3, 1) := by decide +kernel
theorem d_Md_block_294 : decode b_Md_block 294 = .ok (.bipush 22, 2) := by decide +kernel
theorem d_Md_block_296 : decode b_Md_block 296 = .ok (.invokestatic 192, 3) := by decide +kernel
theorem d_Md_block_299 : decode b_Md_block 299 = .ok (.ixor, 1) := by decide +kernel
theorem d_Md_block_300 : decode b_Md_block 300 = .ok (.iload_n 3, 1) := by decide +kernel
theorem d_Md_block_301 : decode b_Md_block 301 = .ok (.aload_n 0, 1) := by decide +kernel
theorem d_Md_block_302 : decode b_Md_block 302 = .ok (.getfield 94, 3) := by decide +kernel
theorem d_Md_block_305 : decode b_Md_block 305 = .ok (.iconst 1, 1) := by decide +kernel
theorem d_Md_block_306 : decode b_Md_block 306 = .ok (.iaload, 1) := by decide +kernel
theorem d_Md_block_307 : decode b_Md_block 307 = .ok (.iand, 1) := by decide +kernel
theorem d_Md_block_308 : decode b_Md_block 308 = .ok (.iload_n 3, 1) := by decide +kernel
theorem d_Md_block_309 : decode b_Md_block 309 = .ok (.aload_n 0, 1) := by decide +kernel
theorem d_Md_block_310 : decode b_Md_block 310 = .ok (.getfield 94, 3) := by decide +kernel
theorem d_Md_block_313 : decode b_Md_block 313 = .ok (.iconst 2, 1) := by decide +kernel
theorem d_Md_block_314 : decode b_Md_block 314 = .ok (.iaload, 1) := by decide +kernel
theorem d_Md_block_315 : decode b_Md_block 315 = .ok (.iand, 1) := by decide +kernel
theorem d_Md_block_316 : decode b_Md_block 316 = .ok (.ixor, 1) := by decide +kernel
theorem d_Md_block_317 : decode b_Md_block 317 = .ok (.aload_n 0, 1) := by decide +kernel
theorem d_Md_block_318 : decode b_Md_block 318 = .ok (.getfield 94, 3) := by decide +kernel
theorem d_Md_block_321 : decode b_Md_block 321 = .ok (.iconst 1, 1) := by decide +kernel
theorem d_Md_block_322 : decode b_Md_block 322 = .ok (.iaload, 1) := by decide +kernel
theorem d_Md_block_323 : decode b_Md_block 323 = .ok (.aload_n 0, 1) := by decide +kernel
theorem d_Md_block_324 : decode b_Md_block 324 = .ok (.getfield 94, 3) := by decide +kernel
theorem d_Md_block_327 : decode b_Md_block 327 = .ok (.iconst 2, 1) := by decide +kernel
theorem d_Md_block_328 : decode b_Md_block 328 = .ok (.iaload, 1) := by decide +kernel
theorem d_Md_block_329 : decode b_Md_block 329 = .ok (.iand, 1) := by decide +kernel
theorem d_Md_block_330 : decode b_Md_block 330 = .ok (.ixor, 1) := by decide +kernel
theorem d_Md_block_331 : decode b_Md_block 331 = .ok (.iadd, 1) := by decide +kernel
theorem d_Md_block_332 : decode b_Md_block 332 = .ok (.istore 6, 2) := by decide +kernel
theorem d_Md_block_334 : decode b_Md_block 334 = .ok (.bipush 7, 2) := by decide +kernel
theorem d_Md_block_336 : decode b_Md_block 336 = .ok (.istore 7, 2) := by decide +kernel
theorem d_Md_block_338 : decode b_Md_block 338 = .ok (.iload 7, 2) := by decide +kernel
theorem d_Md_block_340 : decode b_Md_block 340 = .ok (.ifCond .le 25, 3) := by decide +kernel
theorem d_Md_block_343 : decode b_Md_block 343 = .ok (.aload_n 0, 1) := by decide +kernel
theorem d_Md_block_344 : decode b_Md_block 344 = .ok (.getfield 94, 3) := by decide +kernel
theorem d_Md_block_347 : decode b_Md_block 347 = .ok (.iload 7, 2) := by decide +kernel
theorem d_Md_block_349 : decode b_Md_block 349 = .ok (.aload_n 0, 1) := by decide +kernel
theorem d_Md_block_350 : decode b_Md_block 350 = .ok (.getfield 94, 3) := by decide +kernel
theorem d_Md_block_353 : decode b_Md_block 353 = .ok (.iload 7, 2) := by decide +kernel
theorem d_Md_block_355 : decode b_Md_block 355 = .ok (.iconst 1, 1) := by decide +kernel
theorem d_Md_block_356 : decode b_Md_block 356 = .ok (.isub, 1) := by decide +kernel
theorem d_Md_block_357 : decode b_Md_block 357 = .ok (.iaload, 1) := by decide +kernel
theorem d_Md_block_358 : decode b_Md_block 358 = .ok (.iastore, 1) := by decide +kernel
theorem d_Md_block_359 : decode b_Md_block 359 = .ok (.iinc 7 (-1), 3) := by decide +kernel
theorem d_Md_block_362 : decode b_Md_block 362 = .ok (.goto (-24), 3) := by decide +kernel
theorem d_Md_block_365 : decode b_Md_block 365 = .ok (.aload_n 0, 1) := by decide +kernel
theorem d_Md_block_366 : decode b_Md_block 366 = .ok (.getfield 94, 3) := by decide +kernel
theorem d_Md_block_369 : decode b_Md_block 369 = .ok (.iconst 4, 1) := by decide +kernel
theorem d_Md_block_370 : decode b_Md_block 370 = .ok (.dup2, 1) := by decide +kernel
theorem d_Md_block_371 : decode b_Md_block 371 = .ok (.iaload, 1) := by decide +kernel
theorem d_Md_block_372 : decode b_Md_block 372 = .ok (.iload 5, 2) := by decide +kernel
theorem d_Md_block_374 : decode b_Md_block 374 = .ok (.iadd, 1) := by decide +kernel
theorem d_Md_block_375 : decode b_Md_block 375 = .ok (.iastore, 1) := by decide +kernel
theorem d_Md_block_376 : decode b_Md_block 376 = .ok (.aload_n 0, 1) := by decide +kernel
theorem d_Md_block_377 : decode b_Md_block 377 = .ok (.getfield 94, 3) := by decide +kernel
theorem d_Md_block_380 : decode b_Md_block 380 = .ok (.iconst 0, 1) := by decide +kernel
theorem d_Md_block_381 : decode b_Md_block 381 = .ok (.iload 5, 2) := by decide +kernel
theorem d_Md_block_383 : decode b_Md_block 383 = .ok (.iload 6, 2) := by decide +kernel
theorem d_Md_block_385 : decode b_Md_block 385 = .ok (.iadd, 1) := by decide +kernel
theorem d_Md_block_386 : decode b_Md_block 386 = .ok (.iastore, 1) := by decide +kernel
theorem d_Md_block_387 : decode b_Md_block 387 = .ok (.iinc 2 1, 3) := by decide +kernel
theorem d_Md_block_390 : decode b_Md_block 390 = .ok (.goto (-200), 3) := by decide +kernel
theorem d_Md_block_393 : decode b_Md_block 393 = .ok (.iconst 0, 1) := by decide +kernel
theorem d_Md_block_394 : decode b_Md_block 394 = .ok (.istore_n 2, 1) := by decide +kernel
theorem d_Md_block_395 : decode b_Md_block 395 = .ok (.iload_n 2, 1) := by decide +kernel
theorem d_Md_block_396 : decode b_Md_block 396 = .ok (.bipush 8, 2) := by decide +kernel
theorem d_Md_block_398 : decode b_Md_block 398 = .ok (.if_icmp .ge 24, 3) := by decide +kernel
theorem d_Md_block_401 : decode b_Md_block 401 = .ok (.aload_n 0, 1) := by decide +kernel
theorem d_Md_block_402 : decode b_Md_block 402 = .ok (.getfield 91, 3) := by decide +kernel
theorem d_Md_block_405 : decode b_Md_block 405 = .ok (.iload_n 2, 1) := by decide +kernel
theorem d_Md_block_406 : decode b_Md_block 406 = .ok (.dup2, 1) := by decide +kernel
theorem d_Md_block_407 : decode b_Md_block 407 = .ok (.iaload, 1) := by decide +kernel
theorem d_Md_block_408 : decode b_Md_block 408 = .ok (.aload_n 0, 1) := by decide +kernel
theorem d_Md_block_409 : decode b_Md_block 409 = .ok (.getfield 94, 3) := by decide +kernel
theorem d_Md_block_412 : decode b_Md_block 412 = .ok (.iload_n 2, 1) := by decide +kernel
theorem d_Md_block_413 : decode b_Md_block 413 = .ok (.iaload, 1) := by decide +kernel
theorem d_Md_block_414 : decode b_Md_block 414 = .ok (.iadd, 1) := by decide +kernel
theorem d_Md_block_415 : decode b_Md_block 415 = .ok (.iastore, 1) := by decide +kernel
theorem d_Md_block_416 : decode b_Md_block 416 = .ok (.iinc 2 1, 3) := by decide +kernel
theorem d_Md_block_419 : decode b_Md_block 419 = .ok (.goto (-24), 3) := by decide +kernel
theorem d_Md_block_422 : decode b_Md_block 422 = .ok (.return_, 1) := by decide +kernel
theorem d_Md_digestRow_0 : decode b_Md_digestRow 0 = .ok (.iconst 0, 1) := by decide +kernel
theorem d_Md_digestRow_1 : decode b_Md_digestRow 1 = .ok (.istore_n 1, 1) := by decide +kernel
theorem d_Md_digestRow_2 : decode b_Md_digestRow 2 = .ok (.iload_n 1, 1) := by decide +kernel
theorem d_Md_digestRow_3 : decode b_Md_digestRow 3 = .ok (.bipush 8, 2) := by decide +kernel
theorem d_Md_digestRow_5 : decode b_Md_digestRow 5 = .ok (.if_icmp .ge 21, 3) := by decide +kernel
theorem d_Md_digestRow_8 : decode b_Md_digestRow 8 = .ok (.aload_n 0, 1) := by decide +kernel
theorem d_Md_digestRow_9 : decode b_Md_digestRow 9 = .ok (.getfield 91, 3) := by decide +kernel
theorem d_Md_digestRow_12 : decode b_Md_digestRow 12 = .ok (.iload_n 1, 1) := by decide +kernel
theorem d_Md_digestRow_13 : decode b_Md_digestRow 13 = .ok (.aload_n 0, 1) := by decide +kernel
theorem d_Md_digestRow_14 : decode b_Md_digestRow 14 = .ok (.getfield 85, 3) := by decide +kernel
theorem d_Md_digestRow_17 : decode b_Md_digestRow 17 = .ok (.iload_n 1, 1) := by decide +kernel
theorem d_Md_digestRow_18 : decode b_Md_digestRow 18 = .ok (.iaload, 1) := by decide +kernel
theorem d_Md_digestRow_19 : decode b_Md_digestRow 19 = .ok (.iastore, 1) := by decide +kernel
theorem d_Md_digestRow_20 : decode b_Md_digestRow 20 = .ok (.iinc 1 1, 3) := by decide +kernel
theorem d_Md_digestRow_23 : decode b_Md_digestRow 23 = .ok (.goto (-21), 3) := by decide +kernel
theorem d_Md_digestRow_26 : decode b_Md_digestRow 26 = .ok (.bipush 8, 2) := by decide +kernel
theorem d_Md_digestRow_28 : decode b_Md_digestRow 28 = .ok (.aload_n 0, 1) := by decide +kernel
theorem d_Md_digestRow_29 : decode b_Md_digestRow 29 = .ok (.getfield 195, 3) := by decide +kernel
theorem d_Md_digestRow_32 : decode b_Md_digestRow 32 = .ok (.imul, 1) := by decide +kernel
theorem d_Md_digestRow_33 : decode b_Md_digestRow 33 = .ok (.istore_n 1, 1) := by decide +kernel
theorem d_Md_digestRow_34 : decode b_Md_digestRow 34 = .ok (.aload_n 0, 1) := by decide +kernel
theorem d_Md_digestRow_35 : decode b_Md_digestRow 35 = .ok (.getfield 97, 3) := by decide +kernel
theorem d_Md_digestRow_38 : decode b_Md_digestRow 38 = .ok (.aload_n 0, 1) := by decide +kernel
theorem d_Md_digestRow_39 : decode b_Md_digestRow 39 = .ok (.getfield 195, 3) := by decide +kernel
theorem d_Md_digestRow_42 : decode b_Md_digestRow 42 = .ok (.sipush 128, 3) := by decide +kernel
theorem d_Md_digestRow_45 : decode b_Md_digestRow 45 = .ok (.iastore, 1) := by decide +kernel
theorem d_Md_digestRow_46 : decode b_Md_digestRow 46 = .ok (.aload_n 0, 1) := by decide +kernel
theorem d_Md_digestRow_47 : decode b_Md_digestRow 47 = .ok (.getfield 195, 3) := by decide +kernel
theorem d_Md_digestRow_50 : decode b_Md_digestRow 50 = .ok (.iconst 1, 1) := by decide +kernel
theorem d_Md_digestRow_51 : decode b_Md_digestRow 51 = .ok (.iadd, 1) := by decide +kernel
theorem d_Md_digestRow_52 : decode b_Md_digestRow 52 = .ok (.istore_n 2, 1) := by decide +kernel
theorem d_Md_digestRow_53 : decode b_Md_digestRow 53 = .ok (.iload_n 2, 1) := by decide +kernel
theorem d_Md_digestRow_54 : decode b_Md_digestRow 54 = .ok (.bipush 64, 2) := by decide +kernel
theorem d_Md_digestRow_56 : decode b_Md_digestRow 56 = .ok (.irem, 1) := by decide +kernel
theorem d_Md_digestRow_57 : decode b_Md_digestRow 57 = .ok (.bipush 56, 2) := by decide +kernel
theorem d_Md_digestRow_59 : decode b_Md_digestRow 59 = .ok (.if_icmp .eq 16, 3) := by decide +kernel
theorem d_Md_digestRow_62 : decode b_Md_digestRow 62 = .ok (.aload_n 0, 1) := by decide +kernel
theorem d_Md_digestRow_63 : decode b_Md_digestRow 63 = .ok (.getfield 97, 3) := by decide +kernel
theorem d_Md_digestRow_66 : decode b_Md_digestRow 66 = .ok (.iload_n 2, 1) := by decide +kernel
theorem d_Md_digestRow_67 : decode b_Md_digestRow 67 = .ok (.iconst 0, 1) := by decide +kernel
theorem d_Md_digestRow_68 : decode b_Md_digestRow 68 = .ok (.iastore, 1) := by decide +kernel
theorem d_Md_digestRow_69 : decode b_Md_digestRow 69 = .ok (.iinc 2 1, 3) := by decide +kernel
theorem d_Md_digestRow_72 : decode b_Md_digestRow 72 = .ok (.goto (-19), 3) := by decide +kernel
theorem d_Md_digestRow_75 : decode b_Md_digestRow 75 = .ok (.iconst 0, 1) := by decide +kernel
theorem d_Md_digestRow_76 : decode b_Md_digestRow 76 = .ok (.istore_n 3, 1) := by decide +kernel
theorem d_Md_digestRow_77 : decode b_Md_digestRow 77 = .ok (.iload_n 3, 1) := by decide +kernel
theorem d_Md_digestRow_78 : decode b_Md_digestRow 78 = .ok (.bipush 8, 2) := by decide +kernel
theorem d_Md_digestRow_80 : decode b_Md_digestRow 80 = .ok (.if_icmp .ge 39, 3) := by decide +kernel
theorem d_Md_digestRow_83 : decode b_Md_digestRow 83 = .ok (.aload_n 0, 1) := by decide +kernel
theorem d_Md_digestRow_84 : decode b_Md_digestRow 84 = .ok (.getfield 97, 3) := by decide +kernel
theorem d_Md_digestRow_87 : decode b_Md_digestRow 87 = .ok (.iload_n 2, 1) := by decide +kernel
theorem d_Md_digestRow_88 : decode b_Md_digestRow 88 = .ok (.iload_n 3, 1) := by decide +kernel
theorem d_Md_digestRow_89 : decode b_Md_digestRow 89 = .ok (.iadd, 1) := by decide +kernel
theorem d_Md_digestRow_90 : decode b_Md_digestRow 90 = .ok (.iload_n 3, 1) := by decide +kernel
theorem d_Md_digestRow_91 : decode b_Md_digestRow 91 = .ok (.iconst 4, 1) := by decide +kernel
theorem d_Md_digestRow_92 : decode b_Md_digestRow 92 = .ok (.if_icmp .ge 7, 3) := by decide +kernel
theorem d_Md_digestRow_95 : decode b_Md_digestRow 95 = .ok (.iconst 0, 1) := by decide +kernel
theorem d_Md_digestRow_96 : decode b_Md_digestRow 96 = .ok (.goto 16, 3) := by decide +kernel
theorem d_Md_digestRow_99 : decode b_Md_digestRow 99 = .ok (.iload_n 1, 1) := by decide +kernel
theorem d_Md_digestRow_100 : decode b_Md_digestRow 100 = .ok (.bipush 8, 2) := by decide +kernel
theorem d_Md_digestRow_102 : decode b_Md_digestRow 102 = .ok (.bipush 7, 2) := by decide +kernel
theorem d_Md_digestRow_104 : decode b_Md_digestRow 104 = .ok (.iload_n 3, 1) := by decide +kernel
theorem d_Md_digestRow_105 : decode b_Md_digestRow 105 = .ok (.isub, 1) := by decide +kernel
theorem d_Md_digestRow_106 : decode b_Md_digestRow 106 = .ok (.imul, 1) := by decide +kernel
theorem d_Md_digestRow_107 : decode b_Md_digestRow 107 = .ok (.ishr, 1) := by decide +kernel
theorem d_Md_digestRow_108 : decode b_Md_digestRow 108 = .ok (.sipush 255, 3) := by decide +kernel
theorem d_Md_digestRow_111 : decode b_Md_digestRow 111 = .ok (.iand, 1) := by decide +kernel
theorem d_Md_digestRow_112 : decode b_Md_digestRow 112 = .ok (.iastore, 1) := by decide +kernel
theorem d_Md_digestRow_113 : decode b_Md_digestRow 113 = .ok (.iinc 3 1, 3) := by decide +kernel
theorem d_Md_digestRow_116 : decode b_Md_digestRow 116 = .ok (.goto (-39), 3) := by decide +kernel
theorem d_Md_digestRow_119 : decode b_Md_digestRow 119 = .ok (.iconst 0, 1) := by decide +kernel
theorem d_Md_digestRow_120 : decode b_Md_digestRow 120 = .ok (.istore_n 3, 1) := by decide +kernel
theorem d_Md_digestRow_121 : decode b_Md_digestRow 121 = .ok (.iload_n 3, 1) := by decide +kernel
theorem d_Md_digestRow_122 : decode b_Md_digestRow 122 = .ok (.iload_n 2, 1) := by decide +kernel
theorem d_Md_digestRow_123 : decode b_Md_digestRow 123 = .ok (.bipush 8, 2) := by decide +kernel
theorem d_Md_digestRow_125 : decode b_Md_digestRow 125 = .ok (.iadd, 1) := by decide +kernel
theorem d_Md_digestRow_126 : decode b_Md_digestRow 126 = .ok (.if_icmp .ge 14, 3) := by decide +kernel
theorem d_Md_digestRow_129 : decode b_Md_digestRow 129 = .ok (.aload_n 0, 1) := by decide +kernel
theorem d_Md_digestRow_130 : decode b_Md_digestRow 130 = .ok (.iload_n 3, 1) := by decide +kernel
theorem d_Md_digestRow_131 : decode b_Md_digestRow 131 = .ok (.invokevirtual 198, 3) := by decide +kernel
theorem d_Md_digestRow_134 : decode b_Md_digestRow 134 = .ok (.iinc 3 64, 3) := by decide +kernel
theorem d_Md_digestRow_137 : decode b_Md_digestRow 137 = .ok (.goto (-16), 3) := by decide +kernel
theorem d_Md_digestRow_140 : decode b_Md_digestRow 140 = .ok (.return_, 1) := by decide +kernel
theorem d_Md_makeSeal_0 : decode b_Md_makeSeal 0 = .ok (.iconst 0, 1) := by decide +kernel
theorem d_Md_makeSeal_1 : decode b_Md_makeSeal 1 = .ok (.istore_n 1, 1) := by decide +kernel
theorem d_Md_makeSeal_2 : decode b_Md_makeSeal 2 = .ok (.iload_n 1, 1) := by decide +kernel
theorem d_Md_makeSeal_3 : decode b_Md_makeSeal 3 = .ok (.bipush 64, 2) := by decide +kernel
theorem d_Md_makeSeal_5 : decode b_Md_makeSeal 5 = .ok (.if_icmp .ge 36, 3) := by decide +kernel
theorem d_Md_makeSeal_8 : decode b_Md_makeSeal 8 = .ok (.aload_n 0, 1) := by decide +kernel
theorem d_Md_makeSeal_9 : decode b_Md_makeSeal 9 = .ok (.getfield 97, 3) := by decide +kernel
theorem d_Md_makeSeal_12 : decode b_Md_makeSeal 12 = .ok (.iload_n 1, 1) := by decide +kernel
theorem d_Md_makeSeal_13 : decode b_Md_makeSeal 13 = .ok (.iload_n 1, 1) := by decide +kernel
theorem d_Md_makeSeal_14 : decode b_Md_makeSeal 14 = .ok (.aload_n 0, 1) := by decide +kernel
theorem d_Md_makeSeal_15 : decode b_Md_makeSeal 15 = .ok (.getfield 202, 3) := by decide +kernel
theorem d_Md_makeSeal_18 : decode b_Md_makeSeal 18 = .ok (.if_icmp .ge 12, 3) := by decide +kernel
theorem d_Md_makeSeal_21 : decode b_Md_makeSeal 21 = .ok (.aload_n 0, 1) := by decide +kernel
theorem d_Md_makeSeal_22 : decode b_Md_makeSeal 22 = .ok (.getfield 100, 3) := by decide +kernel
theorem d_Md_makeSeal_25 : decode b_Md_makeSeal 25 = .ok (.iload_n 1, 1) := by decide +kernel
theorem d_Md_makeSeal_26 : decode b_Md_makeSeal 26 = .ok (.iaload, 1) := by decide +kernel
theorem d_Md_makeSeal_27 : decode b_Md_makeSeal 27 = .ok (.goto 4, 3) := by decide +kernel
theorem d_Md_makeSeal_30 : decode b_Md_makeSeal 30 = .ok (.iconst 0, 1) := by decide +kernel
theorem d_Md_makeSeal_31 : decode b_Md_makeSeal 31 = .ok (.bipush 54, 2) := by decide +kernel
theorem d_Md_makeSeal_33 : decode b_Md_makeSeal 33 = .ok (.ixor, 1) := by decide +kernel
theorem d_Md_makeSeal_34 : decode b_Md_makeSeal 34 = .ok (.iastore, 1) := by decide +kernel
theorem d_Md_makeSeal_35 : decode b_Md_makeSeal 35 = .ok (.iinc 1 1, 3) := by decide +kernel
theorem d_Md_makeSeal_38 : decode b_Md_makeSeal 38 = .ok (.goto (-36), 3) := by decide +kernel
theorem d_Md_makeSeal_41 : decode b_Md_makeSeal 41 = .ok (.iconst 0, 1) := by decide +kernel
theorem d_Md_makeSeal_42 : decode b_Md_makeSeal 42 = .ok (.istore_n 1, 1) := by decide +kernel
theorem d_Md_makeSeal_43 : decode b_Md_makeSeal 43 = .ok (.iload_n 1, 1) := by decide +kernel
theorem d_Md_makeSeal_44 : decode b_Md_makeSeal 44 = .ok (.aload_n 0, 1) := by decide +kernel
theorem d_Md_makeSeal_45 : decode b_Md_makeSeal 45 = .ok (.getfield 205, 3) := by decide +kernel
theorem d_Md_makeSeal_48 : decode b_Md_makeSeal 48 = .ok (.if_icmp .ge 24, 3) := by decide +kernel
theorem d_Md_makeSeal_51 : decode b_Md_makeSeal 51 = .ok (.aload_n 0, 1) := by decide +kernel
theorem d_Md_makeSeal_52 : decode b_Md_makeSeal 52 = .ok (.getfield 97, 3) := by decide +kernel
theorem d_Md_makeSeal_55 : decode b_Md_makeSeal 55 = .ok (.bipush 64, 2) := by decide +kernel
theorem d_Md_makeSeal_57 : decode b_Md_makeSeal 57 = .ok (.iload_n 1, 1) := by decide +kernel
theorem d_Md_makeSeal_58 : decode b_Md_makeSeal 58 = .ok (.iadd, 1) := by decide +kernel
theorem d_Md_makeSeal_59 : decode b_Md_makeSeal 59 = .ok (.aload_n 0, 1) := by decide +kernel
theorem d_Md_makeSeal_60 : decode b_Md_makeSeal 60 = .ok (.getfield 103, 3) := by decide +kernel
theorem d_Md_makeSeal_63 : decode b_Md_makeSeal 63 = .ok (.iload_n 1, 1) := by decide +kernel
theorem d_Md_makeSeal_64 : decode b_Md_makeSeal 64 = .ok (.iaload, 1) := by decide +kernel
theorem d_Md_makeSeal_65 : decode b_Md_makeSeal 65 = .ok (.iastore, 1) := by decide +kernel
theorem d_Md_makeSeal_66 : decode b_Md_makeSeal 66 = .ok (.iinc 1 1, 3) := by decide +kernel
theorem d_Md_makeSeal_69 : decode b_Md_makeSeal 69 = .ok (.goto (-26), 3) := by decide +kernel
theorem d_Md_makeSeal_72 : decode b_Md_makeSeal 72 = .ok (.aload_n 0, 1) := by decide +kernel
theorem d_Md_makeSeal_73 : decode b_Md_makeSeal 73 = .ok (.bipush 64, 2) := by decide +kernel
theorem d_Md_makeSeal_75 : decode b_Md_makeSeal 75 = .ok (.aload_n 0, 1) := by decide +kernel
theorem d_Md_makeSeal_76 : decode b_Md_makeSeal 76 = .ok (.getfield 205, 3) := by decide +kernel
theorem d_Md_makeSeal_79 : decode b_Md_makeSeal 79 = .ok (.iadd, 1) := by decide +kernel
theorem d_Md_makeSeal_80 : decode b_Md_makeSeal 80 = .ok (.putfield 195, 3) := by decide +kernel
theorem d_Md_makeSeal_83 : decode b_Md_makeSeal 83 = .ok (.aload_n 0, 1) := by decide +kernel
theorem d_Md_makeSeal_84 : decode b_Md_makeSeal 84 = .ok (.invokevirtual 208, 3) := by decide +kernel
theorem d_Md_makeSeal_87 : decode b_Md_makeSeal 87 = .ok (.iconst 0, 1) := by decide +kernel
theorem d_Md_makeSeal_88 : decode b_Md_makeSeal 88 = .ok (.istore_n 1, 1) := by decide +kernel
theorem d_Md_makeSeal_89 : decode b_Md_makeSeal 89 = .ok (.iload_n 1, 1) := by decide +kernel
theorem d_Md_makeSeal_90 : decode b_Md_makeSeal 90 = .ok (.bipush 32, 2) := by decide +kernel
theorem d_Md_makeSeal_92 : decode b_Md_makeSeal 92 = .ok (.if_icmp .ge 29, 3) := by decide +kernel
theorem d_Md_makeSeal_95 : decode b_Md_makeSeal 95 = .ok (.aload_n 0, 1) := by decide +kernel
theorem d_Md_makeSeal_96 : decode b_Md_makeSeal 96 = .ok (.getfield 106, 3) := by decide +kernel
theorem d_Md_makeSeal_99 : decode b_Md_makeSeal 99 = .ok (.iload_n 1, 1) := by decide +kernel
theorem d_Md_makeSeal_100 : decode b_Md_makeSeal 100 = .ok (.aload_n 0, 1) := by decide +kernel
theorem d_Md_makeSeal_101 : decode b_Md_makeSeal 101 = .ok (.getfield 91, 3) := by decide +kernel
theorem d_Md_makeSeal_104 : decode b_Md_makeSeal 104 = .ok (.iload_n 1, 1) := by decide +kernel
theorem d_Md_makeSeal_105 : decode b_Md_makeSeal 105 = .ok (.iconst 4, 1) := by decide +kernel
theorem d_Md_makeSeal_106 : decode b_Md_makeSeal 106 = .ok (.idiv, 1) := by decide +kernel
theorem d_Md_makeSeal_107 : decode b_Md_makeSeal 107 = .ok (.iaload, 1) := by decide +kernel
theorem d_Md_makeSeal_108 : decode b_Md_makeSeal 108 = .ok (.iload_n 1, 1) := by decide +kernel
theorem d_Md_makeSeal_109 : decode b_Md_makeSeal 109 = .ok (.iconst 4, 1) := by decide +kernel
theorem d_Md_makeSeal_110 : decode b_Md_makeSeal 110 = .ok (.irem, 1) := by decide +kernel
theorem d_Md_makeSeal_111 : decode b_Md_makeSeal 111 = .ok (.invokestatic 211, 3) := by decide +kernel
theorem d_Md_makeSeal_114 : decode b_Md_makeSeal 114 = .ok (.iastore, 1) := by decide +kernel
theorem d_Md_makeSeal_115 : decode b_Md_makeSeal 115 = .ok (.iinc 1 1, 3) := by decide +kernel
theorem d_Md_makeSeal_118 : decode b_Md_makeSeal 118 = .ok (.goto (-29), 3) := by decide +kernel
theorem d_Md_makeSeal_121 : decode b_Md_makeSeal 121 = .ok (.iconst 0, 1) := by decide +kernel
theorem d_Md_makeSeal_122 : decode b_Md_makeSeal 122 = .ok (.istore_n 1, 1) := by decide +kernel
theorem d_Md_makeSeal_123 : decode b_Md_makeSeal 123 = .ok (.iload_n 1, 1) := by decide +kernel
theorem d_Md_makeSeal_124 : decode b_Md_makeSeal 124 = .ok (.bipush 64, 2) := by decide +kernel
theorem d_Md_makeSeal_126 : decode b_Md_makeSeal 126 = .ok (.if_icmp .ge 36, 3) := by decide +kernel
theorem d_Md_makeSeal_129 : decode b_Md_makeSeal 129 = .ok (.aload_n 0, 1) := by decide +kernel
theorem d_Md_makeSeal_130 : decode b_Md_makeSeal 130 = .ok (.getfield 97, 3) := by decide +kernel
theorem d_Md_makeSeal_133 : decode b_Md_makeSeal 133 = .ok (.iload_n 1, 1) := by decide +kernel
theorem d_Md_makeSeal_134 : decode b_Md_makeSeal 134 = .ok (.iload_n 1, 1) := by decide +kernel
theorem d_Md_makeSeal_135 : decode b_Md_makeSeal 135 = .ok (.aload_n 0, 1) := by decide +kernel
theorem d_Md_makeSeal_136 : decode b_Md_makeSeal 136 = .ok (.getfield 202, 3) := by decide +kernel
theorem d_Md_makeSeal_139 : decode b_Md_makeSeal 139 = .ok (.if_icmp .ge 12, 3) := by decide +kernel
theorem d_Md_makeSeal_142 : decode b_Md_makeSeal 142 = .ok (.aload_n 0, 1) := by decide +kernel
theorem d_Md_makeSeal_143 : decode b_Md_makeSeal 143 = .ok (.getfield 100, 3) := by decide +kernel
theorem d_Md_makeSeal_146 : decode b_Md_makeSeal 146 = .ok (.iload_n 1, 1) := by decide +kernel
theorem d_Md_makeSeal_147 : decode b_Md_makeSeal 147 = .ok (.iaload, 1) := by decide +kernel
theorem d_Md_makeSeal_148 : decode b_Md_makeSeal 148 = .ok (.goto 4, 3) := by decide +kernel
theorem d_Md_makeSeal_151 : decode b_Md_makeSeal 151 = .ok (.iconst 0, 1) := by decide +kernel
theorem d_Md_makeSeal_152 : decode b_Md_makeSeal 152 = .ok (.bipush 92, 2) := by decide +kernel
theorem d_Md_makeSeal_154 : decode b_Md_makeSeal 154 = .ok (.ixor, 1) := by decide +kernel
theorem d_Md_makeSeal_155 : decode b_Md_makeSeal 155 = .ok (.iastore, 1) := by decide +kernel
theorem d_Md_makeSeal_156 : decode b_Md_makeSeal 156 = .ok (.iinc 1 1, 3) := by decide +kernel
theorem d_Md_makeSeal_159 : decode b_Md_makeSeal 159 = .ok (.goto (-36), 3) := by decide +kernel
theorem d_Md_makeSeal_162 : decode b_Md_makeSeal 162 = .ok (.iconst 0, 1) := by decide +kernel
theorem d_Md_makeSeal_163 : decode b_Md_makeSeal 163 = .ok (.istore_n 1, 1) := by decide +kernel
theorem d_Md_makeSeal_164 : decode b_Md_makeSeal 164 = .ok (.iload_n 1, 1) := by decide +kernel
theorem d_Md_makeSeal_165 : decode b_Md_makeSeal 165 = .ok (.bipush 32, 2) := by decide +kernel
theorem d_Md_makeSeal_167 : decode b_Md_makeSeal 167 = .ok (.if_icmp .ge 24, 3) := by decide +kernel
theorem d_Md_makeSeal_170 : decode b_Md_makeSeal 170 = .ok (.aload_n 0, 1) := by decide +kernel
theorem d_Md_makeSeal_171 : decode b_Md_makeSeal 171 = .ok (.getfield 97, 3) := by decide +kernel
theorem d_Md_makeSeal_174 : decode b_Md_makeSeal 174 = .ok (.bipush 64, 2) := by decide +kernel
theorem d_Md_makeSeal_176 : decode b_Md_makeSeal 176 = .ok (.iload_n 1, 1) := by decide +kernel
theorem d_Md_makeSeal_177 : decode b_Md_makeSeal 177 = .ok (.iadd, 1) := by decide +kernel
theorem d_Md_makeSeal_178 : decode b_Md_makeSeal 178 = .ok (.aload_n 0, 1) := by decide +kernel
theorem d_Md_makeSeal_179 : decode b_Md_makeSeal 179 = .ok (.getfield 106, 3) := by decide +kernel
theorem d_Md_makeSeal_182 : decode b_Md_makeSeal 182 = .ok (.iload_n 1, 1) := by decide +kernel
theorem d_Md_makeSeal_183 : decode b_Md_makeSeal 183 = .ok (.iaload, 1) := by decide +kernel
theorem d_Md_makeSeal_184 : decode b_Md_makeSeal 184 = .ok (.iastore, 1) := by decide +kernel
theorem d_Md_makeSeal_185 : decode b_Md_makeSeal 185 = .ok (.iinc 1 1, 3) := by decide +kernel
theorem d_Md_makeSeal_188 : decode b_Md_makeSeal 188 = .ok (.goto (-24), 3) := by decide +kernel
theorem d_Md_makeSeal_191 : decode b_Md_makeSeal 191 = .ok (.aload_n 0, 1) := by decide +kernel
theorem d_Md_makeSeal_192 : decode b_Md_makeSeal 192 = .ok (.bipush 96, 2) := by decide +kernel
theorem d_Md_makeSeal_194 : decode b_Md_makeSeal 194 = .ok (.putfield 195, 3) := by decide +kernel
theorem d_Md_makeSeal_197 : decode b_Md_makeSeal 197 = .ok (.aload_n 0, 1) := by decide +kernel
theorem d_Md_makeSeal_198 : decode b_Md_makeSeal 198 = .ok (.invokevirtual 208, 3) := by decide +kernel
theorem d_Md_makeSeal_201 : decode b_Md_makeSeal 201 = .ok (.iconst 0, 1) := by decide +kernel
theorem d_Md_makeSeal_202 : decode b_Md_makeSeal 202 = .ok (.istore_n 1, 1) := by decide +kernel
theorem d_Md_makeSeal_203 : decode b_Md_makeSeal 203 = .ok (.iload_n 1, 1) := by decide +kernel
theorem d_Md_makeSeal_204 : decode b_Md_makeSeal 204 = .ok (.bipush 32, 2) := by decide +kernel
theorem d_Md_makeSeal_206 : decode b_Md_makeSeal 206 = .ok (.if_icmp .ge 29, 3) := by decide +kernel
theorem d_Md_makeSeal_209 : decode b_Md_makeSeal 209 = .ok (.aload_n 0, 1) := by decide +kernel
theorem d_Md_makeSeal_210 : decode b_Md_makeSeal 210 = .ok (.getfield 106, 3) := by decide +kernel
theorem d_Md_makeSeal_213 : decode b_Md_makeSeal 213 = .ok (.iload_n 1, 1) := by decide +kernel
theorem d_Md_makeSeal_214 : decode b_Md_makeSeal 214 = .ok (.aload_n 0, 1) := by decide +kernel
theorem d_Md_makeSeal_215 : decode b_Md_makeSeal 215 = .ok (.getfield 91, 3) := by decide +kernel
theorem d_Md_makeSeal_218 : decode b_Md_makeSeal 218 = .ok (.iload_n 1, 1) := by decide +kernel
theorem d_Md_makeSeal_219 : decode b_Md_makeSeal 219 = .ok (.iconst 4, 1) := by decide +kernel
theorem d_Md_makeSeal_220 : decode b_Md_makeSeal 220 = .ok (.idiv, 1) := by decide +kernel
theorem d_Md_makeSeal_221 : decode b_Md_makeSeal 221 = .ok (.iaload, 1) := by decide +kernel
theorem d_Md_makeSeal_222 : decode b_Md_makeSeal 222 = .ok (.iload_n 1, 1) := by decide +kernel
theorem d_Md_makeSeal_223 : decode b_Md_makeSeal 223 = .ok (.iconst 4, 1) := by decide +kernel
theorem d_Md_makeSeal_224 : decode b_Md_makeSeal 224 = .ok (.irem, 1) := by decide +kernel
theorem d_Md_makeSeal_225 : decode b_Md_makeSeal 225 = .ok (.invokestatic 211, 3) := by decide +kernel
theorem d_Md_makeSeal_228 : decode b_Md_makeSeal 228 = .ok (.iastore, 1) := by decide +kernel
theorem d_Md_makeSeal_229 : decode b_Md_makeSeal 229 = .ok (.iinc 1 1, 3) := by decide +kernel
theorem d_Md_makeSeal_232 : decode b_Md_makeSeal 232 = .ok (.goto (-29), 3) := by decide +kernel
theorem d_Md_makeSeal_235 : decode b_Md_makeSeal 235 = .ok (.return_, 1) := by decide +kernel
theorem d_Md_down_0 : decode b_Md_down 0 = .ok (.iconst 0, 1) := by decide +kernel
theorem d_Md_down_1 : decode b_Md_down 1 = .ok (.istore_n 1, 1) := by decide +kernel
theorem d_Md_down_2 : decode b_Md_down 2 = .ok (.iload_n 1, 1) := by decide +kernel
theorem d_Md_down_3 : decode b_Md_down 3 = .ok (.bipush 20, 2) := by decide +kernel
theorem d_Md_down_5 : decode b_Md_down 5 = .ok (.if_icmp .ge 21, 3) := by decide +kernel
theorem d_Md_down_8 : decode b_Md_down 8 = .ok (.aload_n 0, 1) := by decide +kernel
theorem d_Md_down_9 : decode b_Md_down 9 = .ok (.getfield 100, 3) := by decide +kernel
theorem d_Md_down_12 : decode b_Md_down 12 = .ok (.iload_n 1, 1) := by decide +kernel
theorem d_Md_down_13 : decode b_Md_down 13 = .ok (.aload_n 0, 1) := by decide +kernel
theorem d_Md_down_14 : decode b_Md_down 14 = .ok (.getfield 169, 3) := by decide +kernel
theorem d_Md_down_17 : decode b_Md_down 17 = .ok (.iload_n 1, 1) := by decide +kernel
theorem d_Md_down_18 : decode b_Md_down 18 = .ok (.iaload, 1) := by decide +kernel
theorem d_Md_down_19 : decode b_Md_down 19 = .ok (.iastore, 1) := by decide +kernel
theorem d_Md_down_20 : decode b_Md_down 20 = .ok (.iinc 1 1, 3) := by decide +kernel
theorem d_Md_down_23 : decode b_Md_down 23 = .ok (.goto (-21), 3) := by decide +kernel
theorem d_Md_down_26 : decode b_Md_down 26 = .ok (.aload_n 0, 1) := by decide +kernel
theorem d_Md_down_27 : decode b_Md_down 27 = .ok (.bipush 20, 2) := by decide +kernel
theorem d_Md_down_29 : decode b_Md_down 29 = .ok (.putfield 202, 3) := by decide +kernel
theorem d_Md_down_32 : decode b_Md_down 32 = .ok (.aload_n 0, 1) := by decide +kernel
theorem d_Md_down_33 : decode b_Md_down 33 = .ok (.getfield 103, 3) := by decide +kernel
theorem d_Md_down_36 : decode b_Md_down 36 = .ok (.iconst 0, 1) := by decide +kernel
theorem d_Md_down_37 : decode b_Md_down 37 = .ok (.bipush 99, 2) := by decide +kernel
theorem d_Md_down_39 : decode b_Md_down 39 = .ok (.iastore, 1) := by decide +kernel
theorem d_Md_down_40 : decode b_Md_down 40 = .ok (.aload_n 0, 1) := by decide +kernel
theorem d_Md_down_41 : decode b_Md_down 41 = .ok (.getfield 103, 3) := by decide +kernel
theorem d_Md_down_44 : decode b_Md_down 44 = .ok (.iconst 1, 1) := by decide +kernel
theorem d_Md_down_45 : decode b_Md_down 45 = .ok (.bipush 104, 2) := by decide +kernel
theorem d_Md_down_47 : decode b_Md_down 47 = .ok (.iastore, 1) := by decide +kernel
theorem d_Md_down_48 : decode b_Md_down 48 = .ok (.aload_n 0, 1) := by decide +kernel
theorem d_Md_down_49 : decode b_Md_down 49 = .ok (.getfield 103, 3) := by decide +kernel
theorem d_Md_down_52 : decode b_Md_down 52 = .ok (.iconst 2, 1) := by decide +kernel
theorem d_Md_down_53 : decode b_Md_down 53 = .ok (.bipush 97, 2) := by decide +kernel
theorem d_Md_down_55 : decode b_Md_down 55 = .ok (.iastore, 1) := by decide +kernel
theorem d_Md_down_56 : decode b_Md_down 56 = .ok (.aload_n 0, 1) := by decide +kernel
theorem d_Md_down_57 : decode b_Md_down 57 = .ok (.getfield 103, 3) := by decide +kernel
theorem d_Md_down_60 : decode b_Md_down 60 = .ok (.iconst 3, 1) := by decide +kernel
theorem d_Md_down_61 : decode b_Md_down 61 = .ok (.bipush 105, 2) := by decide +kernel
theorem d_Md_down_63 : decode b_Md_down 63 = .ok (.iastore, 1) := by decide +kernel
theorem d_Md_down_64 : decode b_Md_down 64 = .ok (.aload_n 0, 1) := by decide +kernel
theorem d_Md_down_65 : decode b_Md_down 65 = .ok (.getfield 103, 3) := by decide +kernel
theorem d_Md_down_68 : decode b_Md_down 68 = .ok (.iconst 4, 1) := by decide +kernel
theorem d_Md_down_69 : decode b_Md_down 69 = .ok (.bipush 110, 2) := by decide +kernel
theorem d_Md_down_71 : decode b_Md_down 71 = .ok (.iastore, 1) := by decide +kernel
theorem d_Md_down_72 : decode b_Md_down 72 = .ok (.aload_n 0, 1) := by decide +kernel
theorem d_Md_down_73 : decode b_Md_down 73 = .ok (.iconst 5, 1) := by decide +kernel
theorem d_Md_down_74 : decode b_Md_down 74 = .ok (.putfield 205, 3) := by decide +kernel
theorem d_Md_down_77 : decode b_Md_down 77 = .ok (.aload_n 0, 1) := by decide +kernel
theorem d_Md_down_78 : decode b_Md_down 78 = .ok (.invokevirtual 214, 3) := by decide +kernel
theorem d_Md_down_81 : decode b_Md_down 81 = .ok (.iconst 0, 1) := by decide +kernel
theorem d_Md_down_82 : decode b_Md_down 82 = .ok (.istore_n 1, 1) := by decide +kernel
theorem d_Md_down_83 : decode b_Md_down 83 = .ok (.iload_n 1, 1) := by decide +kernel
theorem d_Md_down_84 : decode b_Md_down 84 = .ok (.bipush 20, 2) := by decide +kernel
theorem d_Md_down_86 : decode b_Md_down 86 = .ok (.if_icmp .ge 21, 3) := by decide +kernel
theorem d_Md_down_89 : decode b_Md_down 89 = .ok (.aload_n 0, 1) := by decide +kernel
theorem d_Md_down_90 : decode b_Md_down 90 = .ok (.getfield 169, 3) := by decide +kernel
theorem d_Md_down_93 : decode b_Md_down 93 = .ok (.iload_n 1, 1) := by decide +kernel
theorem d_Md_down_94 : decode b_Md_down 94 = .ok (.aload_n 0, 1) := by decide +kernel
theorem d_Md_down_95 : decode b_Md_down 95 = .ok (.getfield 106, 3) := by decide +kernel
theorem d_Md_down_98 : decode b_Md_down 98 = .ok (.iload_n 1, 1) := by decide +kernel
theorem d_Md_down_99 : decode b_Md_down 99 = .ok (.iaload, 1) := by decide +kernel
theorem d_Md_down_100 : decode b_Md_down 100 = .ok (.iastore, 1) := by decide +kernel
theorem d_Md_down_101 : decode b_Md_down 101 = .ok (.iinc 1 1, 3) := by decide +kernel
theorem d_Md_down_104 : decode b_Md_down 104 = .ok (.goto (-21), 3) := by decide +kernel
theorem d_Md_down_107 : decode b_Md_down 107 = .ok (.return_, 1) := by decide +kernel
theorem d_Md_codeOfCopy_0 : decode b_Md_codeOfCopy 0 = .ok (.iconst 0, 1) := by decide +kernel
theorem d_Md_codeOfCopy_1 : decode b_Md_codeOfCopy 1 = .ok (.istore_n 2, 1) := by decide +kernel
theorem d_Md_codeOfCopy_2 : decode b_Md_codeOfCopy 2 = .ok (.iload_n 2, 1) := by decide +kernel
theorem d_Md_codeOfCopy_3 : decode b_Md_codeOfCopy 3 = .ok (.bipush 20, 2) := by decide +kernel
theorem d_Md_codeOfCopy_5 : decode b_Md_codeOfCopy 5 = .ok (.if_icmp .ge 21, 3) := by decide +kernel
theorem d_Md_codeOfCopy_8 : decode b_Md_codeOfCopy 8 = .ok (.aload_n 0, 1) := by decide +kernel
theorem d_Md_codeOfCopy_9 : decode b_Md_codeOfCopy 9 = .ok (.getfield 100, 3) := by decide +kernel
theorem d_Md_codeOfCopy_12 : decode b_Md_codeOfCopy 12 = .ok (.iload_n 2, 1) := by decide +kernel
theorem d_Md_codeOfCopy_13 : decode b_Md_codeOfCopy 13 = .ok (.aload_n 0, 1) := by decide +kernel
theorem d_Md_codeOfCopy_14 : decode b_Md_codeOfCopy 14 = .ok (.getfield 169, 3) := by decide +kernel
theorem d_Md_codeOfCopy_17 : decode b_Md_codeOfCopy 17 = .ok (.iload_n 2, 1) := by decide +kernel
theorem d_Md_codeOfCopy_18 : decode b_Md_codeOfCopy 18 = .ok (.iaload, 1) := by decide +kernel
theorem d_Md_codeOfCopy_19 : decode b_Md_codeOfCopy 19 = .ok (.iastore, 1) := by decide +kernel
theorem d_Md_codeOfCopy_20 : decode b_Md_codeOfCopy 20 = .ok (.iinc 2 1, 3) := by decide +kernel
theorem d_Md_codeOfCopy_23 : decode b_Md_codeOfCopy 23 = .ok (.goto (-21), 3) := by decide +kernel
theorem d_Md_codeOfCopy_26 : decode b_Md_codeOfCopy 26 = .ok (.aload_n 0, 1) := by decide +kernel
theorem d_Md_codeOfCopy_27 : decode b_Md_codeOfCopy 27 = .ok (.bipush 20, 2) := by decide +kernel
theorem d_Md_codeOfCopy_29 : decode b_Md_codeOfCopy 29 = .ok (.putfield 202, 3) := by decide +kernel
theorem d_Md_codeOfCopy_32 : decode b_Md_codeOfCopy 32 = .ok (.aload_n 0, 1) := by decide +kernel
theorem d_Md_codeOfCopy_33 : decode b_Md_codeOfCopy 33 = .ok (.getfield 103, 3) := by decide +kernel
theorem d_Md_codeOfCopy_36 : decode b_Md_codeOfCopy 36 = .ok (.iconst 0, 1) := by decide +kernel
theorem d_Md_codeOfCopy_37 : decode b_Md_codeOfCopy 37 = .ok (.bipush 109, 2) := by decide +kernel
theorem d_Md_codeOfCopy_39 : decode b_Md_codeOfCopy 39 = .ok (.iastore, 1) := by decide +kernel
theorem d_Md_codeOfCopy_40 : decode b_Md_codeOfCopy 40 = .ok (.aload_n 0, 1) := by decide +kernel
theorem d_Md_codeOfCopy_41 : decode b_Md_codeOfCopy 41 = .ok (.getfield 103, 3) := by decide +kernel
theorem d_Md_codeOfCopy_44 : decode b_Md_codeOfCopy 44 = .ok (.iconst 1, 1) := by decide +kernel
theorem d_Md_codeOfCopy_45 : decode b_Md_codeOfCopy 45 = .ok (.bipush 97, 2) := by decide +kernel
theorem d_Md_codeOfCopy_47 : decode b_Md_codeOfCopy 47 = .ok (.iastore, 1) := by decide +kernel
theorem d_Md_codeOfCopy_48 : decode b_Md_codeOfCopy 48 = .ok (.aload_n 0, 1) := by decide +kernel
theorem d_Md_codeOfCopy_49 : decode b_Md_codeOfCopy 49 = .ok (.getfield 103, 3) := by decide +kernel
theorem d_Md_codeOfCopy_52 : decode b_Md_codeOfCopy 52 = .ok (.iconst 2, 1) := by decide +kernel
theorem d_Md_codeOfCopy_53 : decode b_Md_codeOfCopy 53 = .ok (.bipush 99, 2) := by decide +kernel
theorem d_Md_codeOfCopy_55 : decode b_Md_codeOfCopy 55 = .ok (.iastore, 1) := by decide +kernel
theorem d_Md_codeOfCopy_56 : decode b_Md_codeOfCopy 56 = .ok (.aload_n 0, 1) := by decide +kernel
theorem d_Md_codeOfCopy_57 : decode b_Md_codeOfCopy 57 = .ok (.iconst 3, 1) := by decide +kernel
theorem d_Md_codeOfCopy_58 : decode b_Md_codeOfCopy 58 = .ok (.putfield 205, 3) := by decide +kernel
theorem d_Md_codeOfCopy_61 : decode b_Md_codeOfCopy 61 = .ok (.aload_n 0, 1) := by decide +kernel
theorem d_Md_codeOfCopy_62 : decode b_Md_codeOfCopy 62 = .ok (.invokevirtual 214, 3) := by decide +kernel
theorem d_Md_codeOfCopy_65 : decode b_Md_codeOfCopy 65 = .ok (.iconst 0, 1) := by decide +kernel
theorem d_Md_codeOfCopy_66 : decode b_Md_codeOfCopy 66 = .ok (.istore_n 2, 1) := by decide +kernel
theorem d_Md_codeOfCopy_67 : decode b_Md_codeOfCopy 67 = .ok (.iload_n 2, 1) := by decide +kernel
theorem d_Md_codeOfCopy_68 : decode b_Md_codeOfCopy 68 = .ok (.bipush 32, 2) := by decide +kernel
theorem d_Md_codeOfCopy_70 : decode b_Md_codeOfCopy 70 = .ok (.if_icmp .ge 21, 3) := by decide +kernel
theorem d_Md_codeOfCopy_73 : decode b_Md_codeOfCopy 73 = .ok (.aload_n 0, 1) := by decide +kernel
theorem d_Md_codeOfCopy_74 : decode b_Md_codeOfCopy 74 = .ok (.getfield 100, 3) := by decide +kernel
theorem d_Md_codeOfCopy_77 : decode b_Md_codeOfCopy 77 = .ok (.iload_n 2, 1) := by decide +kernel
theorem d_Md_codeOfCopy_78 : decode b_Md_codeOfCopy 78 = .ok (.aload_n 0, 1) := by decide +kernel
theorem d_Md_codeOfCopy_79 : decode b_Md_codeOfCopy 79 = .ok (.getfield 106, 3) := by decide +kernel
theorem d_Md_codeOfCopy_82 : decode b_Md_codeOfCopy 82 = .ok (.iload_n 2, 1) := by decide +kernel
theorem d_Md_codeOfCopy_83 : decode b_Md_codeOfCopy 83 = .ok (.iaload, 1) := by decide +kernel
theorem d_Md_codeOfCopy_84 : decode b_Md_codeOfCopy 84 = .ok (.iastore, 1) := by decide +kernel
theorem d_Md_codeOfCopy_85 : decode b_Md_codeOfCopy 85 = .ok (.iinc 2 1, 3) := by decide +kernel
theorem d_Md_codeOfCopy_88 : decode b_Md_codeOfCopy 88 = .ok (.goto (-21), 3) := by decide +kernel
theorem d_Md_codeOfCopy_91 : decode b_Md_codeOfCopy 91 = .ok (.aload_n 0, 1) := by decide +kernel
theorem d_Md_codeOfCopy_92 : decode b_Md_codeOfCopy 92 = .ok (.bipush 32, 2) := by decide +kernel
theorem d_Md_codeOfCopy_94 : decode b_Md_codeOfCopy 94 = .ok (.putfield 202, 3) := by decide +kernel
theorem d_Md_codeOfCopy_97 : decode b_Md_codeOfCopy 97 = .ok (.iconst 0, 1) := by decide +kernel
theorem d_Md_codeOfCopy_98 : decode b_Md_codeOfCopy 98 = .ok (.istore_n 2, 1) := by decide +kernel
theorem d_Md_codeOfCopy_99 : decode b_Md_codeOfCopy 99 = .ok (.iload_n 2, 1) := by decide +kernel
theorem d_Md_codeOfCopy_100 : decode b_Md_codeOfCopy 100 = .ok (.iload_n 1, 1) := by decide +kernel
theorem d_Md_codeOfCopy_101 : decode b_Md_codeOfCopy 101 = .ok (.if_icmp .ge 21, 3) := by decide +kernel
theorem d_Md_codeOfCopy_104 : decode b_Md_codeOfCopy 104 = .ok (.aload_n 0, 1) := by decide +kernel
theorem d_Md_codeOfCopy_105 : decode b_Md_codeOfCopy 105 = .ok (.getfield 103, 3) := by decide +kernel
theorem d_Md_codeOfCopy_108 : decode b_Md_codeOfCopy 108 = .ok (.iload_n 2, 1) := by decide +kernel
theorem d_Md_codeOfCopy_109 : decode b_Md_codeOfCopy 109 = .ok (.aload_n 0, 1) := by decide +kernel
theorem d_Md_codeOfCopy_110 : decode b_Md_codeOfCopy 110 = .ok (.getfield 166, 3) := by decide +kernel
theorem d_Md_codeOfCopy_113 : decode b_Md_codeOfCopy 113 = .ok (.iload_n 2, 1) := by decide +kernel
theorem d_Md_codeOfCopy_114 : decode b_Md_codeOfCopy 114 = .ok (.iaload, 1) := by decide +kernel
theorem d_Md_codeOfCopy_115 : decode b_Md_codeOfCopy 115 = .ok (.iastore, 1) := by decide +kernel
theorem d_Md_codeOfCopy_116 : decode b_Md_codeOfCopy 116 = .ok (.iinc 2 1, 3) := by decide +kernel
theorem d_Md_codeOfCopy_119 : decode b_Md_codeOfCopy 119 = .ok (.goto (-20), 3) := by decide +kernel
theorem d_Md_codeOfCopy_122 : decode b_Md_codeOfCopy 122 = .ok (.aload_n 0, 1) := by decide +kernel
theorem d_Md_codeOfCopy_123 : decode b_Md_codeOfCopy 123 = .ok (.iload_n 1, 1) := by decide +kernel
theorem d_Md_codeOfCopy_124 : decode b_Md_codeOfCopy 124 = .ok (.putfield 205, 3) := by decide +kernel
theorem d_Md_codeOfCopy_127 : decode b_Md_codeOfCopy 127 = .ok (.aload_n 0, 1) := by decide +kernel
theorem d_Md_codeOfCopy_128 : decode b_Md_codeOfCopy 128 = .ok (.invokevirtual 214, 3) := by decide +kernel
theorem d_Md_codeOfCopy_131 : decode b_Md_codeOfCopy 131 = .ok (.return_, 1) := by decide +kernel
