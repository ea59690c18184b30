theorem d_Md_chain_0 : decode b_Md_chain 0 = .ok (.aload_n 0, 1) := by decide +kernel
theorem d_Md_chain_1 : decode b_Md_chain 1 = .ok (.iconst 0, 1) := by decide +kernel
theorem d_Md_chain_2 : decode b_Md_chain 2 = .ok (.putfield 189, 3) := by decide +kernel
theorem d_Md_chain_5 : decode b_Md_chain 5 = .ok (.aload_n 0, 1) := by decide +kernel
theorem d_Md_chain_6 : decode b_Md_chain 6 = .ok (.getfield 220, 3) := by decide +kernel
theorem d_Md_chain_9 : decode b_Md_chain 9 = .ok (.bipush 8, 2) := by decide +kernel
theorem d_Md_chain_11 : decode b_Md_chain 11 = .ok (.if_icmp .ne 9, 3) := by decide +kernel
theorem d_Md_chain_14 : decode b_Md_chain 14 = .ok (.aload_n 0, 1) := by decide +kernel
theorem d_Md_chain_15 : decode b_Md_chain 15 = .ok (.iconst 1, 1) := by decide +kernel
theorem d_Md_chain_16 : decode b_Md_chain 16 = .ok (.invokevirtual 223, 3) := by decide +kernel
theorem d_Md_chain_19 : decode b_Md_chain 19 = .ok (.ireturn, 1) := by decide +kernel
theorem d_Md_chain_20 : decode b_Md_chain 20 = .ok (.iconst 0, 1) := by decide +kernel
theorem d_Md_chain_21 : decode b_Md_chain 21 = .ok (.istore 6, 2) := by decide +kernel
theorem d_Md_chain_23 : decode b_Md_chain 23 = .ok (.iload 6, 2) := by decide +kernel
theorem d_Md_chain_25 : decode b_Md_chain 25 = .ok (.bipush 20, 2) := by decide +kernel
theorem d_Md_chain_27 : decode b_Md_chain 27 = .ok (.if_icmp .ge 69, 3) := by decide +kernel
theorem d_Md_chain_30 : decode b_Md_chain 30 = .ok (.aload_n 0, 1) := by decide +kernel
theorem d_Md_chain_31 : decode b_Md_chain 31 = .ok (.getfield 169, 3) := by decide +kernel
theorem d_Md_chain_34 : decode b_Md_chain 34 = .ok (.iload 6, 2) := by decide +kernel
theorem d_Md_chain_36 : decode b_Md_chain 36 = .ok (.iload 6, 2) := by decide +kernel
theorem d_Md_chain_38 : decode b_Md_chain 38 = .ok (.iconst 4, 1) := by decide +kernel
theorem d_Md_chain_39 : decode b_Md_chain 39 = .ok (.if_icmp .ge 7, 3) := by decide +kernel
theorem d_Md_chain_42 : decode b_Md_chain 42 = .ok (.iload_n 1, 1) := by decide +kernel
theorem d_Md_chain_43 : decode b_Md_chain 43 = .ok (.goto 39, 3) := by decide +kernel
theorem d_Md_chain_46 : decode b_Md_chain 46 = .ok (.iload 6, 2) := by decide +kernel
theorem d_Md_chain_48 : decode b_Md_chain 48 = .ok (.bipush 8, 2) := by decide +kernel
theorem d_Md_chain_50 : decode b_Md_chain 50 = .ok (.if_icmp .ge 7, 3) := by decide +kernel
theorem d_Md_chain_53 : decode b_Md_chain 53 = .ok (.iload_n 2, 1) := by decide +kernel
theorem d_Md_chain_54 : decode b_Md_chain 54 = .ok (.goto 28, 3) := by decide +kernel
theorem d_Md_chain_57 : decode b_Md_chain 57 = .ok (.iload 6, 2) := by decide +kernel
theorem d_Md_chain_59 : decode b_Md_chain 59 = .ok (.bipush 12, 2) := by decide +kernel
theorem d_Md_chain_61 : decode b_Md_chain 61 = .ok (.if_icmp .ge 7, 3) := by decide +kernel
theorem d_Md_chain_64 : decode b_Md_chain 64 = .ok (.iload_n 3, 1) := by decide +kernel
theorem d_Md_chain_65 : decode b_Md_chain 65 = .ok (.goto 17, 3) := by decide +kernel
theorem d_Md_chain_68 : decode b_Md_chain 68 = .ok (.iload 6, 2) := by decide +kernel
theorem d_Md_chain_70 : decode b_Md_chain 70 = .ok (.bipush 16, 2) := by decide +kernel
theorem d_Md_chain_72 : decode b_Md_chain 72 = .ok (.if_icmp .ge 8, 3) := by decide +kernel
theorem d_Md_chain_75 : decode b_Md_chain 75 = .ok (.iload 4, 2) := by decide +kernel
theorem d_Md_chain_77 : decode b_Md_chain 77 = .ok (.goto 5, 3) := by decide +kernel
theorem d_Md_chain_80 : decode b_Md_chain 80 = .ok (.iload 5, 2) := by decide +kernel
theorem d_Md_chain_82 : decode b_Md_chain 82 = .ok (.iload 6, 2) := by decide +kernel
theorem d_Md_chain_84 : decode b_Md_chain 84 = .ok (.iconst 4, 1) := by decide +kernel
theorem d_Md_chain_85 : decode b_Md_chain 85 = .ok (.irem, 1) := by decide +kernel
theorem d_Md_chain_86 : decode b_Md_chain 86 = .ok (.invokestatic 211, 3) := by decide +kernel
theorem d_Md_chain_89 : decode b_Md_chain 89 = .ok (.iastore, 1) := by decide +kernel
theorem d_Md_chain_90 : decode b_Md_chain 90 = .ok (.iinc 6 1, 3) := by decide +kernel
theorem d_Md_chain_93 : decode b_Md_chain 93 = .ok (.goto (-70), 3) := by decide +kernel
theorem d_Md_chain_96 : decode b_Md_chain 96 = .ok (.bipush 64, 2) := by decide +kernel
theorem d_Md_chain_98 : decode b_Md_chain 98 = .ok (.istore 6, 2) := by decide +kernel
theorem d_Md_chain_100 : decode b_Md_chain 100 = .ok (.iload 6, 2) := by decide +kernel
theorem d_Md_chain_102 : decode b_Md_chain 102 = .ok (.ifCond .lt 63, 3) := by decide +kernel
theorem d_Md_chain_105 : decode b_Md_chain 105 = .ok (.iconst 0, 1) := by decide +kernel
theorem d_Md_chain_106 : decode b_Md_chain 106 = .ok (.istore 7, 2) := by decide +kernel
theorem d_Md_chain_108 : decode b_Md_chain 108 = .ok (.iload 7, 2) := by decide +kernel
theorem d_Md_chain_110 : decode b_Md_chain 110 = .ok (.bipush 20, 2) := by decide +kernel
theorem d_Md_chain_112 : decode b_Md_chain 112 = .ok (.if_icmp .ge 38, 3) := by decide +kernel
theorem d_Md_chain_115 : decode b_Md_chain 115 = .ok (.aload_n 0, 1) := by decide +kernel
theorem d_Md_chain_116 : decode b_Md_chain 116 = .ok (.getfield 112, 3) := by decide +kernel
theorem d_Md_chain_119 : decode b_Md_chain 119 = .ok (.sipush 1300, 3) := by decide +kernel
theorem d_Md_chain_122 : decode b_Md_chain 122 = .ok (.aload_n 0, 1) := by decide +kernel
theorem d_Md_chain_123 : decode b_Md_chain 123 = .ok (.getfield 220, 3) := by decide +kernel
theorem d_Md_chain_126 : decode b_Md_chain 126 = .ok (.imul, 1) := by decide +kernel
theorem d_Md_chain_127 : decode b_Md_chain 127 = .ok (.bipush 20, 2) := by decide +kernel
theorem d_Md_chain_129 : decode b_Md_chain 129 = .ok (.iload 6, 2) := by decide +kernel
theorem d_Md_chain_131 : decode b_Md_chain 131 = .ok (.imul, 1) := by decide +kernel
theorem d_Md_chain_132 : decode b_Md_chain 132 = .ok (.iadd, 1) := by decide +kernel
theorem d_Md_chain_133 : decode b_Md_chain 133 = .ok (.iload 7, 2) := by decide +kernel
theorem d_Md_chain_135 : decode b_Md_chain 135 = .ok (.iadd, 1) := by decide +kernel
theorem d_Md_chain_136 : decode b_Md_chain 136 = .ok (.aload_n 0, 1) := by decide +kernel
theorem d_Md_chain_137 : decode b_Md_chain 137 = .ok (.getfield 169, 3) := by decide +kernel
theorem d_Md_chain_140 : decode b_Md_chain 140 = .ok (.iload 7, 2) := by decide +kernel
theorem d_Md_chain_142 : decode b_Md_chain 142 = .ok (.iaload, 1) := by decide +kernel
theorem d_Md_chain_143 : decode b_Md_chain 143 = .ok (.iastore, 1) := by decide +kernel
theorem d_Md_chain_144 : decode b_Md_chain 144 = .ok (.iinc 7 1, 3) := by decide +kernel
theorem d_Md_chain_147 : decode b_Md_chain 147 = .ok (.goto (-39), 3) := by decide +kernel
theorem d_Md_chain_150 : decode b_Md_chain 150 = .ok (.iload 6, 2) := by decide +kernel
theorem d_Md_chain_152 : decode b_Md_chain 152 = .ok (.ifCond .le 7, 3) := by decide +kernel
theorem d_Md_chain_155 : decode b_Md_chain 155 = .ok (.aload_n 0, 1) := by decide +kernel
theorem d_Md_chain_156 : decode b_Md_chain 156 = .ok (.invokevirtual 227, 3) := by decide +kernel
theorem d_Md_chain_159 : decode b_Md_chain 159 = .ok (.iinc 6 (-1), 3) := by decide +kernel
theorem d_Md_chain_162 : decode b_Md_chain 162 = .ok (.goto (-62), 3) := by decide +kernel
theorem d_Md_chain_165 : decode b_Md_chain 165 = .ok (.aload_n 0, 1) := by decide +kernel
theorem d_Md_chain_166 : decode b_Md_chain 166 = .ok (.dup, 1) := by decide +kernel
theorem d_Md_chain_167 : decode b_Md_chain 167 = .ok (.getfield 220, 3) := by decide +kernel
theorem d_Md_chain_170 : decode b_Md_chain 170 = .ok (.iconst 1, 1) := by decide +kernel
theorem d_Md_chain_171 : decode b_Md_chain 171 = .ok (.iadd, 1) := by decide +kernel
theorem d_Md_chain_172 : decode b_Md_chain 172 = .ok (.putfield 220, 3) := by decide +kernel
theorem d_Md_chain_175 : decode b_Md_chain 175 = .ok (.aload_n 0, 1) := by decide +kernel
theorem d_Md_chain_176 : decode b_Md_chain 176 = .ok (.getfield 220, 3) := by decide +kernel
theorem d_Md_chain_179 : decode b_Md_chain 179 = .ok (.iconst 1, 1) := by decide +kernel
theorem d_Md_chain_180 : decode b_Md_chain 180 = .ok (.isub, 1) := by decide +kernel
theorem d_Md_chain_181 : decode b_Md_chain 181 = .ok (.ireturn, 1) := by decide +kernel
theorem d_Md_tick_0 : decode b_Md_tick 0 = .ok (.aload_n 0, 1) := by decide +kernel
theorem d_Md_tick_1 : decode b_Md_tick 1 = .ok (.iconst 0, 1) := by decide +kernel
theorem d_Md_tick_2 : decode b_Md_tick 2 = .ok (.putfield 189, 3) := by decide +kernel
theorem d_Md_tick_5 : decode b_Md_tick 5 = .ok (.iload_n 1, 1) := by decide +kernel
theorem d_Md_tick_6 : decode b_Md_tick 6 = .ok (.iconst 1, 1) := by decide +kernel
theorem d_Md_tick_7 : decode b_Md_tick 7 = .ok (.ldc 230, 2) := by decide +kernel
theorem d_Md_tick_9 : decode b_Md_tick 9 = .ok (.invokestatic 231, 3) := by decide +kernel
theorem d_Md_tick_12 : decode b_Md_tick 12 = .ok (.ifCond .ne 9, 3) := by decide +kernel
theorem d_Md_tick_15 : decode b_Md_tick 15 = .ok (.aload_n 0, 1) := by decide +kernel
theorem d_Md_tick_16 : decode b_Md_tick 16 = .ok (.iconst 1, 1) := by decide +kernel
theorem d_Md_tick_17 : decode b_Md_tick 17 = .ok (.invokevirtual 223, 3) := by decide +kernel
theorem d_Md_tick_20 : decode b_Md_tick 20 = .ok (.ireturn, 1) := by decide +kernel
theorem d_Md_tick_21 : decode b_Md_tick 21 = .ok (.aload_n 0, 1) := by decide +kernel
theorem d_Md_tick_22 : decode b_Md_tick 22 = .ok (.getfield 217, 3) := by decide +kernel
theorem d_Md_tick_25 : decode b_Md_tick 25 = .ok (.iload_n 1, 1) := by decide +kernel
theorem d_Md_tick_26 : decode b_Md_tick 26 = .ok (.iadd, 1) := by decide +kernel
theorem d_Md_tick_27 : decode b_Md_tick 27 = .ok (.aload_n 0, 1) := by decide +kernel
theorem d_Md_tick_28 : decode b_Md_tick 28 = .ok (.getfield 183, 3) := by decide +kernel
theorem d_Md_tick_31 : decode b_Md_tick 31 = .ok (.idiv, 1) := by decide +kernel
theorem d_Md_tick_32 : decode b_Md_tick 32 = .ok (.iconst 1, 1) := by decide +kernel
theorem d_Md_tick_33 : decode b_Md_tick 33 = .ok (.iadd, 1) := by decide +kernel
theorem d_Md_tick_34 : decode b_Md_tick 34 = .ok (.sipush 512, 3) := by decide +kernel
theorem d_Md_tick_37 : decode b_Md_tick 37 = .ok (.if_icmp .le 9, 3) := by decide +kernel
theorem d_Md_tick_40 : decode b_Md_tick 40 = .ok (.aload_n 0, 1) := by decide +kernel
theorem d_Md_tick_41 : decode b_Md_tick 41 = .ok (.iconst 2, 1) := by decide +kernel
theorem d_Md_tick_42 : decode b_Md_tick 42 = .ok (.invokevirtual 223, 3) := by decide +kernel
theorem d_Md_tick_45 : decode b_Md_tick 45 = .ok (.ireturn, 1) := by decide +kernel
theorem d_Md_tick_46 : decode b_Md_tick 46 = .ok (.aload_n 0, 1) := by decide +kernel
theorem d_Md_tick_47 : decode b_Md_tick 47 = .ok (.dup, 1) := by decide +kernel
theorem d_Md_tick_48 : decode b_Md_tick 48 = .ok (.getfield 217, 3) := by decide +kernel
theorem d_Md_tick_51 : decode b_Md_tick 51 = .ok (.iload_n 1, 1) := by decide +kernel
theorem d_Md_tick_52 : decode b_Md_tick 52 = .ok (.iadd, 1) := by decide +kernel
theorem d_Md_tick_53 : decode b_Md_tick 53 = .ok (.putfield 217, 3) := by decide +kernel
theorem d_Md_tick_56 : decode b_Md_tick 56 = .ok (.aload_n 0, 1) := by decide +kernel
theorem d_Md_tick_57 : decode b_Md_tick 57 = .ok (.getfield 217, 3) := by decide +kernel
theorem d_Md_tick_60 : decode b_Md_tick 60 = .ok (.ireturn, 1) := by decide +kernel
theorem d_Md_load_0 : decode b_Md_load 0 = .ok (.aload_n 0, 1) := by decide +kernel
theorem d_Md_load_1 : decode b_Md_load 1 = .ok (.iconst 0, 1) := by decide +kernel
theorem d_Md_load_2 : decode b_Md_load 2 = .ok (.putfield 189, 3) := by decide +kernel
theorem d_Md_load_5 : decode b_Md_load 5 = .ok (.iload_n 1, 1) := by decide +kernel
theorem d_Md_load_6 : decode b_Md_load 6 = .ok (.iconst 0, 1) := by decide +kernel
theorem d_Md_load_7 : decode b_Md_load 7 = .ok (.bipush 7, 2) := by decide +kernel
theorem d_Md_load_9 : decode b_Md_load 9 = .ok (.invokestatic 231, 3) := by decide +kernel
theorem d_Md_load_12 : decode b_Md_load 12 = .ok (.ifCond .ne 9, 3) := by decide +kernel
theorem d_Md_load_15 : decode b_Md_load 15 = .ok (.aload_n 0, 1) := by decide +kernel
theorem d_Md_load_16 : decode b_Md_load 16 = .ok (.iconst 1, 1) := by decide +kernel
theorem d_Md_load_17 : decode b_Md_load 17 = .ok (.invokevirtual 223, 3) := by decide +kernel
theorem d_Md_load_20 : decode b_Md_load 20 = .ok (.ireturn, 1) := by decide +kernel
theorem d_Md_load_21 : decode b_Md_load 21 = .ok (.aload_n 0, 1) := by decide +kernel
theorem d_Md_load_22 : decode b_Md_load 22 = .ok (.getfield 109, 3) := by decide +kernel
theorem d_Md_load_25 : decode b_Md_load 25 = .ok (.iload_n 1, 1) := by decide +kernel
theorem d_Md_load_26 : decode b_Md_load 26 = .ok (.iaload, 1) := by decide +kernel
theorem d_Md_load_27 : decode b_Md_load 27 = .ok (.istore_n 3, 1) := by decide +kernel
theorem d_Md_load_28 : decode b_Md_load 28 = .ok (.aload_n 0, 1) := by decide +kernel
theorem d_Md_load_29 : decode b_Md_load 29 = .ok (.getfield 109, 3) := by decide +kernel
theorem d_Md_load_32 : decode b_Md_load 32 = .ok (.iload_n 1, 1) := by decide +kernel
theorem d_Md_load_33 : decode b_Md_load 33 = .ok (.iload_n 2, 1) := by decide +kernel
theorem d_Md_load_34 : decode b_Md_load 34 = .ok (.iastore, 1) := by decide +kernel
theorem d_Md_load_35 : decode b_Md_load 35 = .ok (.iload_n 3, 1) := by decide +kernel
theorem d_Md_load_36 : decode b_Md_load 36 = .ok (.ireturn, 1) := by decide +kernel
theorem d_Md_digest_0 : decode b_Md_digest 0 = .ok (.aload_n 0, 1) := by decide +kernel
theorem d_Md_digest_1 : decode b_Md_digest 1 = .ok (.iconst 0, 1) := by decide +kernel
theorem d_Md_digest_2 : decode b_Md_digest 2 = .ok (.putfield 189, 3) := by decide +kernel
theorem d_Md_digest_5 : decode b_Md_digest 5 = .ok (.iload_n 1, 1) := by decide +kernel
theorem d_Md_digest_6 : decode b_Md_digest 6 = .ok (.iconst 0, 1) := by decide +kernel
theorem d_Md_digest_7 : decode b_Md_digest 7 = .ok (.bipush 32, 2) := by decide +kernel
theorem d_Md_digest_9 : decode b_Md_digest 9 = .ok (.invokestatic 231, 3) := by decide +kernel
theorem d_Md_digest_12 : decode b_Md_digest 12 = .ok (.ifCond .ne 9, 3) := by decide +kernel
theorem d_Md_digest_15 : decode b_Md_digest 15 = .ok (.aload_n 0, 1) := by decide +kernel
theorem d_Md_digest_16 : decode b_Md_digest 16 = .ok (.iconst 1, 1) := by decide +kernel
theorem d_Md_digest_17 : decode b_Md_digest 17 = .ok (.invokevirtual 223, 3) := by decide +kernel
theorem d_Md_digest_20 : decode b_Md_digest 20 = .ok (.ireturn, 1) := by decide +kernel
theorem d_Md_digest_21 : decode b_Md_digest 21 = .ok (.iload_n 2, 1) := by decide +kernel
theorem d_Md_digest_22 : decode b_Md_digest 22 = .ok (.iconst 0, 1) := by decide +kernel
theorem d_Md_digest_23 : decode b_Md_digest 23 = .ok (.bipush 7, 2) := by decide +kernel
theorem d_Md_digest_25 : decode b_Md_digest 25 = .ok (.invokestatic 231, 3) := by decide +kernel
theorem d_Md_digest_28 : decode b_Md_digest 28 = .ok (.ifCond .ne 9, 3) := by decide +kernel
theorem d_Md_digest_31 : decode b_Md_digest 31 = .ok (.aload_n 0, 1) := by decide +kernel
theorem d_Md_digest_32 : decode b_Md_digest 32 = .ok (.iconst 2, 1) := by decide +kernel
theorem d_Md_digest_33 : decode b_Md_digest 33 = .ok (.invokevirtual 223, 3) := by decide +kernel
theorem d_Md_digest_36 : decode b_Md_digest 36 = .ok (.ireturn, 1) := by decide +kernel
theorem d_Md_digest_37 : decode b_Md_digest 37 = .ok (.iconst 0, 1) := by decide +kernel
theorem d_Md_digest_38 : decode b_Md_digest 38 = .ok (.istore_n 3, 1) := by decide +kernel
theorem d_Md_digest_39 : decode b_Md_digest 39 = .ok (.iload_n 3, 1) := by decide +kernel
theorem d_Md_digest_40 : decode b_Md_digest 40 = .ok (.iload_n 1, 1) := by decide +kernel
theorem d_Md_digest_41 : decode b_Md_digest 41 = .ok (.if_icmp .ge 29, 3) := by decide +kernel
theorem d_Md_digest_44 : decode b_Md_digest 44 = .ok (.aload_n 0, 1) := by decide +kernel
theorem d_Md_digest_45 : decode b_Md_digest 45 = .ok (.getfield 97, 3) := by decide +kernel
theorem d_Md_digest_48 : decode b_Md_digest 48 = .ok (.iload_n 3, 1) := by decide +kernel
theorem d_Md_digest_49 : decode b_Md_digest 49 = .ok (.aload_n 0, 1) := by decide +kernel
theorem d_Md_digest_50 : decode b_Md_digest 50 = .ok (.getfield 109, 3) := by decide +kernel
theorem d_Md_digest_53 : decode b_Md_digest 53 = .ok (.iload_n 3, 1) := by decide +kernel
theorem d_Md_digest_54 : decode b_Md_digest 54 = .ok (.iconst 4, 1) := by decide +kernel
theorem d_Md_digest_55 : decode b_Md_digest 55 = .ok (.idiv, 1) := by decide +kernel
theorem d_Md_digest_56 : decode b_Md_digest 56 = .ok (.iaload, 1) := by decide +kernel
theorem d_Md_digest_57 : decode b_Md_digest 57 = .ok (.iload_n 3, 1) := by decide +kernel
theorem d_Md_digest_58 : decode b_Md_digest 58 = .ok (.iconst 4, 1) := by decide +kernel
theorem d_Md_digest_59 : decode b_Md_digest 59 = .ok (.irem, 1) := by decide +kernel
theorem d_Md_digest_60 : decode b_Md_digest 60 = .ok (.invokestatic 211, 3) := by decide +kernel
theorem d_Md_digest_63 : decode b_Md_digest 63 = .ok (.iastore, 1) := by decide +kernel
theorem d_Md_digest_64 : decode b_Md_digest 64 = .ok (.iinc 3 1, 3) := by decide +kernel
theorem d_Md_digest_67 : decode b_Md_digest 67 = .ok (.goto (-28), 3) := by decide +kernel
theorem d_Md_digest_70 : decode b_Md_digest 70 = .ok (.aload_n 0, 1) := by decide +kernel
theorem d_Md_digest_71 : decode b_Md_digest 71 = .ok (.iload_n 1, 1) := by decide +kernel
theorem d_Md_digest_72 : decode b_Md_digest 72 = .ok (.putfield 195, 3) := by decide +kernel
theorem d_Md_digest_75 : decode b_Md_digest 75 = .ok (.aload_n 0, 1) := by decide +kernel
theorem d_Md_digest_76 : decode b_Md_digest 76 = .ok (.invokevirtual 208, 3) := by decide +kernel
theorem d_Md_digest_79 : decode b_Md_digest 79 = .ok (.aload_n 0, 1) := by decide +kernel
theorem d_Md_digest_80 : decode b_Md_digest 80 = .ok (.getfield 91, 3) := by decide +kernel
theorem d_Md_digest_83 : decode b_Md_digest 83 = .ok (.iload_n 2, 1) := by decide +kernel
theorem d_Md_digest_84 : decode b_Md_digest 84 = .ok (.iaload, 1) := by decide +kernel
theorem d_Md_digest_85 : decode b_Md_digest 85 = .ok (.ireturn, 1) := by decide +kernel
theorem d_Md_pack_0 : decode b_Md_pack 0 = .ok (.aload_n 0, 1) := by decide +kernel
theorem d_Md_pack_1 : decode b_Md_pack 1 = .ok (.invokevirtual 235, 3) := by decide +kernel
theorem d_Md_pack_4 : decode b_Md_pack 4 = .ok (.istore_n 3, 1) := by decide +kernel
theorem d_Md_pack_5 : decode b_Md_pack 5 = .ok (.iconst 0, 1) := by decide +kernel
theorem d_Md_pack_6 : decode b_Md_pack 6 = .ok (.istore 4, 2) := by decide +kernel
theorem d_Md_pack_8 : decode b_Md_pack 8 = .ok (.iload 4, 2) := by decide +kernel
theorem d_Md_pack_10 : decode b_Md_pack 10 = .ok (.iconst 4, 1) := by decide +kernel
theorem d_Md_pack_11 : decode b_Md_pack 11 = .ok (.if_icmp .ge 22, 3) := by decide +kernel
theorem d_Md_pack_14 : decode b_Md_pack 14 = .ok (.aload_n 0, 1) := by decide +kernel
theorem d_Md_pack_15 : decode b_Md_pack 15 = .ok (.getfield 166, 3) := by decide +kernel
theorem d_Md_pack_18 : decode b_Md_pack 18 = .ok (.iload 4, 2) := by decide +kernel
theorem d_Md_pack_20 : decode b_Md_pack 20 = .ok (.iload_n 3, 1) := by decide +kernel
theorem d_Md_pack_21 : decode b_Md_pack 21 = .ok (.iload 4, 2) := by decide +kernel
theorem d_Md_pack_23 : decode b_Md_pack 23 = .ok (.invokestatic 211, 3) := by decide +kernel
theorem d_Md_pack_26 : decode b_Md_pack 26 = .ok (.iastore, 1) := by decide +kernel
theorem d_Md_pack_27 : decode b_Md_pack 27 = .ok (.iinc 4 1, 3) := by decide +kernel
theorem d_Md_pack_30 : decode b_Md_pack 30 = .ok (.goto (-22), 3) := by decide +kernel
theorem d_Md_pack_33 : decode b_Md_pack 33 = .ok (.aload_n 0, 1) := by decide +kernel
theorem d_Md_pack_34 : decode b_Md_pack 34 = .ok (.getfield 166, 3) := by decide +kernel
theorem d_Md_pack_37 : decode b_Md_pack 37 = .ok (.iconst 4, 1) := by decide +kernel
theorem d_Md_pack_38 : decode b_Md_pack 38 = .ok (.iload_n 1, 1) := by decide +kernel
theorem d_Md_pack_39 : decode b_Md_pack 39 = .ok (.iastore, 1) := by decide +kernel
theorem d_Md_pack_40 : decode b_Md_pack 40 = .ok (.aload_n 0, 1) := by decide +kernel
theorem d_Md_pack_41 : decode b_Md_pack 41 = .ok (.getfield 166, 3) := by decide +kernel
theorem d_Md_pack_44 : decode b_Md_pack 44 = .ok (.iconst 5, 1) := by decide +kernel
theorem d_Md_pack_45 : decode b_Md_pack 45 = .ok (.iload_n 2, 1) := by decide +kernel
theorem d_Md_pack_46 : decode b_Md_pack 46 = .ok (.iastore, 1) := by decide +kernel
theorem d_Md_pack_47 : decode b_Md_pack 47 = .ok (.iload_n 3, 1) := by decide +kernel
theorem d_Md_pack_48 : decode b_Md_pack 48 = .ok (.invokestatic 239, 3) := by decide +kernel
theorem d_Md_pack_51 : decode b_Md_pack 51 = .ok (.istore 4, 2) := by decide +kernel
theorem d_Md_pack_53 : decode b_Md_pack 53 = .ok (.iconst 0, 1) := by decide +kernel
theorem d_Md_pack_54 : decode b_Md_pack 54 = .ok (.istore 5, 2) := by decide +kernel
theorem d_Md_pack_56 : decode b_Md_pack 56 = .ok (.iload 5, 2) := by decide +kernel
theorem d_Md_pack_58 : decode b_Md_pack 58 = .ok (.bipush 20, 2) := by decide +kernel
theorem d_Md_pack_60 : decode b_Md_pack 60 = .ok (.if_icmp .ge 32, 3) := by decide +kernel
theorem d_Md_pack_63 : decode b_Md_pack 63 = .ok (.aload_n 0, 1) := by decide +kernel
theorem d_Md_pack_64 : decode b_Md_pack 64 = .ok (.getfield 169, 3) := by decide +kernel
theorem d_Md_pack_67 : decode b_Md_pack 67 = .ok (.iload 5, 2) := by decide +kernel
theorem d_Md_pack_69 : decode b_Md_pack 69 = .ok (.aload_n 0, 1) := by decide +kernel
theorem d_Md_pack_70 : decode b_Md_pack 70 = .ok (.iload 4, 2) := by decide +kernel
theorem d_Md_pack_72 : decode b_Md_pack 72 = .ok (.iload_n 3, 1) := by decide +kernel
theorem d_Md_pack_73 : decode b_Md_pack 73 = .ok (.iconst 1, 1) := by decide +kernel
theorem d_Md_pack_74 : decode b_Md_pack 74 = .ok (.isub, 1) := by decide +kernel
theorem d_Md_pack_75 : decode b_Md_pack 75 = .ok (.bipush 64, 2) := by decide +kernel
theorem d_Md_pack_77 : decode b_Md_pack 77 = .ok (.irem, 1) := by decide +kernel
theorem d_Md_pack_78 : decode b_Md_pack 78 = .ok (.iconst 1, 1) := by decide +kernel
theorem d_Md_pack_79 : decode b_Md_pack 79 = .ok (.iadd, 1) := by decide +kernel
theorem d_Md_pack_80 : decode b_Md_pack 80 = .ok (.iload 5, 2) := by decide +kernel
theorem d_Md_pack_82 : decode b_Md_pack 82 = .ok (.invokevirtual 242, 3) := by decide +kernel
theorem d_Md_pack_85 : decode b_Md_pack 85 = .ok (.iastore, 1) := by decide +kernel
theorem d_Md_pack_86 : decode b_Md_pack 86 = .ok (.iinc 5 1, 3) := by decide +kernel
theorem d_Md_pack_89 : decode b_Md_pack 89 = .ok (.goto (-33), 3) := by decide +kernel
theorem d_Md_pack_92 : decode b_Md_pack 92 = .ok (.aload_n 0, 1) := by decide +kernel
theorem d_Md_pack_93 : decode b_Md_pack 93 = .ok (.bipush 6, 2) := by decide +kernel
theorem d_Md_pack_95 : decode b_Md_pack 95 = .ok (.iload_n 2, 1) := by decide +kernel
theorem d_Md_pack_96 : decode b_Md_pack 96 = .ok (.iadd, 1) := by decide +kernel
theorem d_Md_pack_97 : decode b_Md_pack 97 = .ok (.invokevirtual 246, 3) := by decide +kernel
theorem d_Md_pack_100 : decode b_Md_pack 100 = .ok (.iconst 0, 1) := by decide +kernel
theorem d_Md_pack_101 : decode b_Md_pack 101 = .ok (.istore 5, 2) := by decide +kernel
theorem d_Md_pack_103 : decode b_Md_pack 103 = .ok (.iload 5, 2) := by decide +kernel
theorem d_Md_pack_105 : decode b_Md_pack 105 = .ok (.bipush 10, 2) := by decide +kernel
theorem d_Md_pack_107 : decode b_Md_pack 107 = .ok (.if_icmp .ge 28, 3) := by decide +kernel
theorem d_Md_pack_110 : decode b_Md_pack 110 = .ok (.aload_n 0, 1) := by decide +kernel
theorem d_Md_pack_111 : decode b_Md_pack 111 = .ok (.getfield 166, 3) := by decide +kernel
theorem d_Md_pack_114 : decode b_Md_pack 114 = .ok (.bipush 6, 2) := by decide +kernel
theorem d_Md_pack_116 : decode b_Md_pack 116 = .ok (.iload_n 2, 1) := by decide +kernel
theorem d_Md_pack_117 : decode b_Md_pack 117 = .ok (.iadd, 1) := by decide +kernel
theorem d_Md_pack_118 : decode b_Md_pack 118 = .ok (.iload 5, 2) := by decide +kernel
theorem d_Md_pack_120 : decode b_Md_pack 120 = .ok (.iadd, 1) := by decide +kernel
theorem d_Md_pack_121 : decode b_Md_pack 121 = .ok (.aload_n 0, 1) := by decide +kernel
theorem d_Md_pack_122 : decode b_Md_pack 122 = .ok (.getfield 106, 3) := by decide +kernel
theorem d_Md_pack_125 : decode b_Md_pack 125 = .ok (.iload 5, 2) := by decide +kernel
theorem d_Md_pack_127 : decode b_Md_pack 127 = .ok (.iaload, 1) := by decide +kernel
theorem d_Md_pack_128 : decode b_Md_pack 128 = .ok (.iastore, 1) := by decide +kernel
theorem d_Md_pack_129 : decode b_Md_pack 129 = .ok (.iinc 5 1, 3) := by decide +kernel
theorem d_Md_pack_132 : decode b_Md_pack 132 = .ok (.goto (-29), 3) := by decide +kernel
theorem d_Md_pack_135 : decode b_Md_pack 135 = .ok (.iload_n 3, 1) := by decide +kernel
theorem d_Md_pack_136 : decode b_Md_pack 136 = .ok (.aload_n 0, 1) := by decide +kernel
theorem d_Md_pack_137 : decode b_Md_pack 137 = .ok (.getfield 179, 3) := by decide +kernel
theorem d_Md_pack_140 : decode b_Md_pack 140 = .ok (.isub, 1) := by decide +kernel
theorem d_Md_pack_141 : decode b_Md_pack 141 = .ok (.istore 5, 2) := by decide +kernel
theorem d_Md_pack_143 : decode b_Md_pack 143 = .ok (.iconst 0, 1) := by decide +kernel
theorem d_Md_pack_144 : decode b_Md_pack 144 = .ok (.istore 6, 2) := by decide +kernel
theorem d_Md_pack_146 : decode b_Md_pack 146 = .ok (.iload 6, 2) := by decide +kernel
theorem d_Md_pack_148 : decode b_Md_pack 148 = .ok (.bipush 20, 2) := by decide +kernel
theorem d_Md_pack_150 : decode b_Md_pack 150 = .ok (.if_icmp .ge 51, 3) := by decide +kernel
theorem d_Md_pack_153 : decode b_Md_pack 153 = .ok (.aload_n 0, 1) := by decide +kernel
theorem d_Md_pack_154 : decode b_Md_pack 154 = .ok (.getfield 166, 3) := by decide +kernel
theorem d_Md_pack_157 : decode b_Md_pack 157 = .ok (.bipush 16, 2) := by decide +kernel
theorem d_Md_pack_159 : decode b_Md_pack 159 = .ok (.iload_n 2, 1) := by decide +kernel
theorem d_Md_pack_160 : decode b_Md_pack 160 = .ok (.iadd, 1) := by decide +kernel
theorem d_Md_pack_161 : decode b_Md_pack 161 = .ok (.iload 6, 2) := by decide +kernel
theorem d_Md_pack_163 : decode b_Md_pack 163 = .ok (.iadd, 1) := by decide +kernel
theorem d_Md_pack_164 : decode b_Md_pack 164 = .ok (.iload 5, 2) := by decide +kernel
theorem d_Md_pack_166 : decode b_Md_pack 166 = .ok (.iconst 1, 1) := by decide +kernel
theorem d_Md_pack_167 : decode b_Md_pack 167 = .ok (.if_icmp .ge 7, 3) := by decide +kernel
theorem d_Md_pack_170 : decode b_Md_pack 170 = .ok (.iconst 0, 1) := by decide +kernel
theorem d_Md_pack_171 : decode b_Md_pack 171 = .ok (.goto 23, 3) := by decide +kernel
theorem d_Md_pack_174 : decode b_Md_pack 174 = .ok (.aload_n 0, 1) := by decide +kernel
theorem d_Md_pack_175 : decode b_Md_pack 175 = .ok (.iload 5, 2) := by decide +kernel
theorem d_Md_pack_177 : decode b_Md_pack 177 = .ok (.invokestatic 239, 3) := by decide +kernel
theorem d_Md_pack_180 : decode b_Md_pack 180 = .ok (.iload 5, 2) := by decide +kernel
theorem d_Md_pack_182 : decode b_Md_pack 182 = .ok (.iconst 1, 1) := by decide +kernel
theorem d_Md_pack_183 : decode b_Md_pack 183 = .ok (.isub, 1) := by decide +kernel
theorem d_Md_pack_184 : decode b_Md_pack 184 = .ok (.bipush 64, 2) := by decide +kernel
theorem d_Md_pack_186 : decode b_Md_pack 186 = .ok (.irem, 1) := by decide +kernel
theorem d_Md_pack_187 : decode b_Md_pack 187 = .ok (.iconst 1, 1) := by decide +kernel
theorem d_Md_pack_188 : decode b_Md_pack 188 = .ok (.iadd, 1) := by decide +kernel
theorem d_Md_pack_189 : decode b_Md_pack 189 = .ok (.iload 6, 2) := by decide +kernel
theorem d_Md_pack_191 : decode b_Md_pack 191 = .ok (.invokevirtual 242, 3) := by decide +kernel
theorem d_Md_pack_194 : decode b_Md_pack 194 = .ok (.iastore, 1) := by decide +kernel
theorem d_Md_pack_195 : decode b_Md_pack 195 = .ok (.iinc 6 1, 3) := by decide +kernel
theorem d_Md_pack_198 : decode b_Md_pack 198 = .ok (.goto (-52), 3) := by decide +kernel
theorem d_Md_pack_201 : decode b_Md_pack 201 = .ok (.aload_n 0, 1) := by decide +kernel
theorem d_Md_pack_202 : decode b_Md_pack 202 = .ok (.getfield 115, 3) := by decide +kernel
theorem d_Md_pack_205 : decode b_Md_pack 205 = .ok (.aload_n 0, 1) := by decide +kernel
theorem d_Md_pack_206 : decode b_Md_pack 206 = .ok (.getfield 249, 3) := by decide +kernel
theorem d_Md_pack_209 : decode b_Md_pack 209 = .ok (.bipush 36, 2) := by decide +kernel
theorem d_Md_pack_211 : decode b_Md_pack 211 = .ok (.iload_n 2, 1) := by decide +kernel
theorem d_Md_pack_212 : decode b_Md_pack 212 = .ok (.iadd, 1) := by decide +kernel
theorem d_Md_pack_213 : decode b_Md_pack 213 = .ok (.iastore, 1) := by decide +kernel
theorem d_Md_pack_214 : decode b_Md_pack 214 = .ok (.iconst 0, 1) := by decide +kernel
theorem d_Md_pack_215 : decode b_Md_pack 215 = .ok (.istore 6, 2) := by decide +kernel
theorem d_Md_pack_217 : decode b_Md_pack 217 = .ok (.iload 6, 2) := by decide +kernel
theorem d_Md_pack_219 : decode b_Md_pack 219 = .ok (.bipush 36, 2) := by decide +kernel
theorem d_Md_pack_221 : decode b_Md_pack 221 = .ok (.iload_n 2, 1) := by decide +kernel
theorem d_Md_pack_222 : decode b_Md_pack 222 = .ok (.iadd, 1) := by decide +kernel
theorem d_Md_pack_223 : decode b_Md_pack 223 = .ok (.if_icmp .ge 31, 3) := by decide +kernel
theorem d_Md_pack_226 : decode b_Md_pack 226 = .ok (.aload_n 0, 1) := by decide +kernel
theorem d_Md_pack_227 : decode b_Md_pack 227 = .ok (.getfield 118, 3) := by decide +kernel
theorem d_Md_pack_230 : decode b_Md_pack 230 = .ok (.bipush 68, 2) := by decide +kernel
theorem d_Md_pack_232 : decode b_Md_pack 232 = .ok (.aload_n 0, 1) := by decide +kernel
theorem d_Md_pack_233 : decode b_Md_pack 233 = .ok (.getfield 249, 3) := by decide +kernel
theorem d_Md_pack_236 : decode b_Md_pack 236 = .ok (.imul, 1) := by decide +kernel
theorem d_Md_pack_237 : decode b_Md_pack 237 = .ok (.iload 6, 2) := by decide +kernel
theorem d_Md_pack_239 : decode b_Md_pack 239 = .ok (.iadd, 1) := by decide +kernel
theorem d_Md_pack_240 : decode b_Md_pack 240 = .ok (.aload_n 0, 1) := by decide +kernel
theorem d_Md_pack_241 : decode b_Md_pack 241 = .ok (.getfield 166, 3) := by decide +kernel
theorem d_Md_pack_244 : decode b_Md_pack 244 = .ok (.iload 6, 2) := by decide +kernel
theorem d_Md_pack_246 : decode b_Md_pack 246 = .ok (.iaload, 1) := by decide +kernel
theorem d_Md_pack_247 : decode b_Md_pack 247 = .ok (.iastore, 1) := by decide +kernel
theorem d_Md_pack_248 : decode b_Md_pack 248 = .ok (.iinc 6 1, 3) := by decide +kernel
theorem d_Md_pack_251 : decode b_Md_pack 251 = .ok (.goto (-34), 3) := by decide +kernel
theorem d_Md_pack_254 : decode b_Md_pack 254 = .ok (.aload_n 0, 1) := by decide +kernel
theorem d_Md_pack_255 : decode b_Md_pack 255 = .ok (.dup, 1) := by decide +kernel
theorem d_Md_pack_256 : decode b_Md_pack 256 = .ok (.getfield 249, 3) := by decide +kernel
theorem d_Md_pack_259 : decode b_Md_pack 259 = .ok (.iconst 1, 1) := by decide +kernel
theorem d_Md_pack_260 : decode b_Md_pack 260 = .ok (.iadd, 1) := by decide +kernel
theorem d_Md_pack_261 : decode b_Md_pack 261 = .ok (.putfield 249, 3) := by decide +kernel
theorem d_Md_pack_264 : decode b_Md_pack 264 = .ok (.aload_n 0, 1) := by decide +kernel
theorem d_Md_pack_265 : decode b_Md_pack 265 = .ok (.getfield 249, 3) := by decide +kernel
theorem d_Md_pack_268 : decode b_Md_pack 268 = .ok (.iconst 1, 1) := by decide +kernel
theorem d_Md_pack_269 : decode b_Md_pack 269 = .ok (.isub, 1) := by decide +kernel
theorem d_Md_pack_270 : decode b_Md_pack 270 = .ok (.ireturn, 1) := by decide +kernel
theorem d_Md_send_0 : decode b_Md_send 0 = .ok (.aload_n 0, 1) := by decide +kernel
theorem d_Md_send_1 : decode b_Md_send 1 = .ok (.iconst 0, 1) := by decide +kernel
theorem d_Md_send_2 : decode b_Md_send 2 = .ok (.putfield 189, 3) := by decide +kernel
theorem d_Md_send_5 : decode b_Md_send 5 = .ok (.iload_n 1, 1) := by decide +kernel
theorem d_Md_send_6 : decode b_Md_send 6 = .ok (.iconst 0, 1) := by decide +kernel
theorem d_Md_send_7 : decode b_Md_send 7 = .ok (.bipush 32, 2) := by decide +kernel
theorem d_Md_send_9 : decode b_Md_send 9 = .ok (.invokestatic 231, 3) := by decide +kernel
theorem d_Md_send_12 : decode b_Md_send 12 = .ok (.ifCond .ne 9, 3) := by decide +kernel
theorem d_Md_send_15 : decode b_Md_send 15 = .ok (.aload_n 0, 1) := by decide +kernel
theorem d_Md_send_16 : decode b_Md_send 16 = .ok (.iconst 1, 1) := by decide +kernel
theorem d_Md_send_17 : decode b_Md_send 17 = .ok (.invokevirtual 223, 3) := by decide +kernel
theorem d_Md_send_20 : decode b_Md_send 20 = .ok (.ireturn, 1) := by decide +kernel
theorem d_Md_send_21 : decode b_Md_send 21 = .ok (.aload_n 0, 1) := by decide +kernel
theorem d_Md_send_22 : decode b_Md_send 22 = .ok (.invokevirtual 235, 3) := by decide +kernel
theorem d_Md_send_25 : decode b_Md_send 25 = .ok (.invokestatic 239, 3) := by decide +kernel
theorem d_Md_send_28 : decode b_Md_send 28 = .ok (.aload_n 0, 1) := by decide +kernel
theorem d_Md_send_29 : decode b_Md_send 29 = .ok (.getfield 220, 3) := by decide +kernel
theorem d_Md_send_32 : decode b_Md_send 32 = .ok (.if_icmp .lt 9, 3) := by decide +kernel
theorem d_Md_send_35 : decode b_Md_send 35 = .ok (.aload_n 0, 1) := by decide +kernel
theorem d_Md_send_36 : decode b_Md_send 36 = .ok (.iconst 2, 1) := by decide +kernel
theorem d_Md_send_37 : decode b_Md_send 37 = .ok (.invokevirtual 223, 3) := by decide +kernel
theorem d_Md_send_40 : decode b_Md_send 40 = .ok (.ireturn, 1) := by decide +kernel
theorem d_Md_send_41 : decode b_Md_send 41 = .ok (.aload_n 0, 1) := by decide +kernel
theorem d_Md_send_42 : decode b_Md_send 42 = .ok (.getfield 249, 3) := by decide +kernel
theorem d_Md_send_45 : decode b_Md_send 45 = .ok (.sipush 200, 3) := by decide +kernel
theorem d_Md_send_48 : decode b_Md_send 48 = .ok (.if_icmp .ne 9, 3) := by decide +kernel
theorem d_Md_send_51 : decode b_Md_send 51 = .ok (.aload_n 0, 1) := by decide +kernel
theorem d_Md_send_52 : decode b_Md_send 52 = .ok (.iconst 3, 1) := by decide +kernel
theorem d_Md_send_53 : decode b_Md_send 53 = .ok (.invokevirtual 223, 3) := by decide +kernel
theorem d_Md_send_56 : decode b_Md_send 56 = .ok (.ireturn, 1) := by decide +kernel
theorem d_Md_send_57 : decode b_Md_send 57 = .ok (.iconst 0, 1) := by decide +kernel
theorem d_Md_send_58 : decode b_Md_send 58 = .ok (.istore_n 2, 1) := by decide +kernel
theorem d_Md_send_59 : decode b_Md_send 59 = .ok (.iload_n 2, 1) := by decide +kernel
theorem d_Md_send_60 : decode b_Md_send 60 = .ok (.iload_n 1, 1) := by decide +kernel
theorem d_Md_send_61 : decode b_Md_send 61 = .ok (.if_icmp .ge 32, 3) := by decide +kernel
theorem d_Md_send_64 : decode b_Md_send 64 = .ok (.aload_n 0, 1) := by decide +kernel
theorem d_Md_send_65 : decode b_Md_send 65 = .ok (.getfield 166, 3) := by decide +kernel
theorem d_Md_send_68 : decode b_Md_send 68 = .ok (.bipush 6, 2) := by decide +kernel
theorem d_Md_send_70 : decode b_Md_send 70 = .ok (.iload_n 2, 1) := by decide +kernel
theorem d_Md_send_71 : decode b_Md_send 71 = .ok (.iadd, 1) := by decide +kernel
theorem d_Md_send_72 : decode b_Md_send 72 = .ok (.aload_n 0, 1) := by decide +kernel
theorem d_Md_send_73 : decode b_Md_send 73 = .ok (.getfield 109, 3) := by decide +kernel
theorem d_Md_send_76 : decode b_Md_send 76 = .ok (.iload_n 2, 1) := by decide +kernel
theorem d_Md_send_77 : decode b_Md_send 77 = .ok (.iconst 4, 1) := by decide +kernel
theorem d_Md_send_78 : decode b_Md_send 78 = .ok (.idiv, 1) := by decide +kernel
theorem d_Md_send_79 : decode b_Md_send 79 = .ok (.iaload, 1) := by decide +kernel
theorem d_Md_send_80 : decode b_Md_send 80 = .ok (.iload_n 2, 1) := by decide +kernel
theorem d_Md_send_81 : decode b_Md_send 81 = .ok (.iconst 4, 1) := by decide +kernel
theorem d_Md_send_82 : decode b_Md_send 82 = .ok (.irem, 1) := by decide +kernel
theorem d_Md_send_83 : decode b_Md_send 83 = .ok (.invokestatic 211, 3) := by decide +kernel
theorem d_Md_send_86 : decode b_Md_send 86 = .ok (.iastore, 1) := by decide +kernel
theorem d_Md_send_87 : decode b_Md_send 87 = .ok (.iinc 2 1, 3) := by decide +kernel
theorem d_Md_send_90 : decode b_Md_send 90 = .ok (.goto (-31), 3) := by decide +kernel
theorem d_Md_send_93 : decode b_Md_send 93 = .ok (.aload_n 0, 1) := by decide +kernel
theorem d_Md_send_94 : decode b_Md_send 94 = .ok (.iconst 0, 1) := by decide +kernel
theorem d_Md_send_95 : decode b_Md_send 95 = .ok (.iload_n 1, 1) := by decide +kernel
theorem d_Md_send_96 : decode b_Md_send 96 = .ok (.invokevirtual 252, 3) := by decide +kernel
theorem d_Md_send_99 : decode b_Md_send 99 = .ok (.ireturn, 1) := by decide +kernel
theorem d_Md_root_0 : decode b_Md_root 0 = .ok (.aload_n 0, 1) := by decide +kernel
theorem d_Md_root_1 : decode b_Md_root 1 = .ok (.iconst 0, 1) := by decide +kernel
theorem d_Md_root_2 : decode b_Md_root 2 = .ok (.putfield 189, 3) := by decide +kernel
theorem d_Md_root_5 : decode b_Md_root 5 = .ok (.aload_n 0, 1) := by decide +kernel
theorem d_Md_root_6 : decode b_Md_root 6 = .ok (.invokevirtual 235, 3) := by decide +kernel
theorem d_Md_root_9 : decode b_Md_root 9 = .ok (.invokestatic 239, 3) := by decide +kernel
theorem d_Md_root_12 : decode b_Md_root 12 = .ok (.istore_n 1, 1) := by decide +kernel
theorem d_Md_root_13 : decode b_Md_root 13 = .ok (.iload_n 1, 1) := by decide +kernel
theorem d_Md_root_14 : decode b_Md_root 14 = .ok (.iconst 1, 1) := by decide +kernel
theorem d_Md_root_15 : decode b_Md_root 15 = .ok (.iadd, 1) := by decide +kernel
theorem d_Md_root_16 : decode b_Md_root 16 = .ok (.aload_n 0, 1) := by decide +kernel
theorem d_Md_root_17 : decode b_Md_root 17 = .ok (.getfield 220, 3) := by decide +kernel
theorem d_Md_root_20 : decode b_Md_root 20 = .ok (.if_icmp .lt 9, 3) := by decide +kernel
theorem d_Md_root_23 : decode b_Md_root 23 = .ok (.aload_n 0, 1) := by decide +kernel
theorem d_Md_root_24 : decode b_Md_root 24 = .ok (.iconst 1, 1) := by decide +kernel
theorem d_Md_root_25 : decode b_Md_root 25 = .ok (.invokevirtual 223, 3) := by decide +kernel
theorem d_Md_root_28 : decode b_Md_root 28 = .ok (.ireturn, 1) := by decide +kernel
theorem d_Md_root_29 : decode b_Md_root 29 = .ok (.aload_n 0, 1) := by decide +kernel
theorem d_Md_root_30 : decode b_Md_root 30 = .ok (.getfield 249, 3) := by decide +kernel
theorem d_Md_root_33 : decode b_Md_root 33 = .ok (.sipush 200, 3) := by decide +kernel
theorem d_Md_root_36 : decode b_Md_root 36 = .ok (.if_icmp .ne 9, 3) := by decide +kernel
theorem d_Md_root_39 : decode b_Md_root 39 = .ok (.aload_n 0, 1) := by decide +kernel
theorem d_Md_root_40 : decode b_Md_root 40 = .ok (.iconst 2, 1) := by decide +kernel
theorem d_Md_root_41 : decode b_Md_root 41 = .ok (.invokevirtual 223, 3) := by decide +kernel
theorem d_Md_root_44 : decode b_Md_root 44 = .ok (.ireturn, 1) := by decide +kernel
theorem d_Md_root_45 : decode b_Md_root 45 = .ok (.iconst 0, 1) := by decide +kernel
theorem d_Md_root_46 : decode b_Md_root 46 = .ok (.istore_n 2, 1) := by decide +kernel
theorem d_Md_root_47 : decode b_Md_root 47 = .ok (.iload_n 2, 1) := by decide +kernel
theorem d_Md_root_48 : decode b_Md_root 48 = .ok (.bipush 20, 2) := by decide +kernel
theorem d_Md_root_50 : decode b_Md_root 50 = .ok (.if_icmp .ge 27, 3) := by decide +kernel
theorem d_Md_root_53 : decode b_Md_root 53 = .ok (.aload_n 0, 1) := by decide +kernel
theorem d_Md_root_54 : decode b_Md_root 54 = .ok (.getfield 166, 3) := by decide +kernel
theorem d_Md_root_57 : decode b_Md_root 57 = .ok (.bipush 6, 2) := by decide +kernel
theorem d_Md_root_59 : decode b_Md_root 59 = .ok (.iload_n 2, 1) := by decide +kernel
theorem d_Md_root_60 : decode b_Md_root 60 = .ok (.iadd, 1) := by decide +kernel
theorem d_Md_root_61 : decode b_Md_root 61 = .ok (.aload_n 0, 1) := by decide +kernel
theorem d_Md_root_62 : decode b_Md_root 62 = .ok (.iload_n 1, 1) := by decide +kernel
theorem d_Md_root_63 : decode b_Md_root 63 = .ok (.iconst 1, 1) := by decide +kernel
theorem d_Md_root_64 : decode b_Md_root 64 = .ok (.iadd, 1) := by decide +kernel
theorem d_Md_root_65 : decode b_Md_root 65 = .ok (.iconst 0, 1) := by decide +kernel
theorem d_Md_root_66 : decode b_Md_root 66 = .ok (.iload_n 2, 1) := by decide +kernel
theorem d_Md_root_67 : decode b_Md_root 67 = .ok (.invokevirtual 242, 3) := by decide +kernel
theorem d_Md_root_70 : decode b_Md_root 70 = .ok (.iastore, 1) := by decide +kernel
theorem d_Md_root_71 : decode b_Md_root 71 = .ok (.iinc 2 1, 3) := by decide +kernel
theorem d_Md_root_74 : decode b_Md_root 74 = .ok (.goto (-27), 3) := by decide +kernel
theorem d_Md_root_77 : decode b_Md_root 77 = .ok (.aload_n 0, 1) := by decide +kernel
theorem d_Md_root_78 : decode b_Md_root 78 = .ok (.iconst 1, 1) := by decide +kernel
theorem d_Md_root_79 : decode b_Md_root 79 = .ok (.bipush 20, 2) := by decide +kernel
theorem d_Md_root_81 : decode b_Md_root 81 = .ok (.invokevirtual 252, 3) := by decide +kernel
theorem d_Md_root_84 : decode b_Md_root 84 = .ok (.ireturn, 1) := by decide +kernel
theorem d_Md_packet_0 : decode b_Md_packet 0 = .ok (.aload_n 0, 1) := by decide +kernel
theorem d_Md_packet_1 : decode b_Md_packet 1 = .ok (.iconst 0, 1) := by decide +kernel
theorem d_Md_packet_2 : decode b_Md_packet 2 = .ok (.putfield 189, 3) := by decide +kernel
theorem d_Md_packet_5 : decode b_Md_packet 5 = .ok (.iload_n 1, 1) := by decide +kernel
theorem d_Md_packet_6 : decode b_Md_packet 6 = .ok (.iconst 0, 1) := by decide +kernel
theorem d_Md_packet_7 : decode b_Md_packet 7 = .ok (.aload_n 0, 1) := by decide +kernel
theorem d_Md_packet_8 : decode b_Md_packet 8 = .ok (.getfield 249, 3) := by decide +kernel
theorem d_Md_packet_11 : decode b_Md_packet 11 = .ok (.iconst 1, 1) := by decide +kernel
theorem d_Md_packet_12 : decode b_Md_packet 12 = .ok (.isub, 1) := by decide +kernel
theorem d_Md_packet_13 : decode b_Md_packet 13 = .ok (.invokestatic 231, 3) := by decide +kernel
theorem d_Md_packet_16 : decode b_Md_packet 16 = .ok (.ifCond .eq 33, 3) := by decide +kernel
theorem d_Md_packet_19 : decode b_Md_packet 19 = .ok (.iload_n 2, 1) := by decide +kernel
theorem d_Md_packet_20 : decode b_Md_packet 20 = .ok (.iconst 0, 1) := by decide +kernel
theorem d_Md_packet_21 : decode b_Md_packet 21 = .ok (.aload_n 0, 1) := by decide +kernel
theorem d_Md_packet_22 : decode b_Md_packet 22 = .ok (.getfield 115, 3) := by decide +kernel
theorem d_Md_packet_25 : decode b_Md_packet 25 = .ok (.iload_n 1, 1) := by decide +kernel
theorem d_Md_packet_26 : decode b_Md_packet 26 = .ok (.iaload, 1) := by decide +kernel
theorem d_Md_packet_27 : decode b_Md_packet 27 = .ok (.iconst 1, 1) := by decide +kernel
theorem d_Md_packet_28 : decode b_Md_packet 28 = .ok (.isub, 1) := by decide +kernel
theorem d_Md_packet_29 : decode b_Md_packet 29 = .ok (.invokestatic 231, 3) := by decide +kernel
theorem d_Md_packet_32 : decode b_Md_packet 32 = .ok (.ifCond .eq 17, 3) := by decide +kernel
theorem d_Md_packet_35 : decode b_Md_packet 35 = .ok (.aload_n 0, 1) := by decide +kernel
theorem d_Md_packet_36 : decode b_Md_packet 36 = .ok (.getfield 118, 3) := by decide +kernel
theorem d_Md_packet_39 : decode b_Md_packet 39 = .ok (.bipush 68, 2) := by decide +kernel
theorem d_Md_packet_41 : decode b_Md_packet 41 = .ok (.iload_n 1, 1) := by decide +kernel
theorem d_Md_packet_42 : decode b_Md_packet 42 = .ok (.imul, 1) := by decide +kernel
theorem d_Md_packet_43 : decode b_Md_packet 43 = .ok (.iload_n 2, 1) := by decide +kernel
theorem d_Md_packet_44 : decode b_Md_packet 44 = .ok (.iadd, 1) := by decide +kernel
theorem d_Md_packet_45 : decode b_Md_packet 45 = .ok (.iaload, 1) := by decide +kernel
theorem d_Md_packet_46 : decode b_Md_packet 46 = .ok (.goto 8, 3) := by decide +kernel
theorem d_Md_packet_49 : decode b_Md_packet 49 = .ok (.aload_n 0, 1) := by decide +kernel
theorem d_Md_packet_50 : decode b_Md_packet 50 = .ok (.iconst 1, 1) := by decide +kernel
theorem d_Md_packet_51 : decode b_Md_packet 51 = .ok (.invokevirtual 223, 3) := by decide +kernel
theorem d_Md_packet_54 : decode b_Md_packet 54 = .ok (.ireturn, 1) := by decide +kernel
theorem d_Md_chainFor_0 : decode b_Md_chainFor 0 = .ok (.iload_n 1, 1) := by decide +kernel
theorem d_Md_chainFor_1 : decode b_Md_chainFor 1 = .ok (.bipush 64, 2) := by decide +kernel
theorem d_Md_chainFor_3 : decode b_Md_chainFor 3 = .ok (.irem, 1) := by decide +kernel
theorem d_Md_chainFor_4 : decode b_Md_chainFor 4 = .ok (.ifCond .ne 10, 3) := by decide +kernel
theorem d_Md_chainFor_7 : decode b_Md_chainFor 7 = .ok (.iload_n 1, 1) := by decide +kernel
theorem d_Md_chainFor_8 : decode b_Md_chainFor 8 = .ok (.bipush 64, 2) := by decide +kernel
theorem d_Md_chainFor_10 : decode b_Md_chainFor 10 = .ok (.idiv, 1) := by decide +kernel
theorem d_Md_chainFor_11 : decode b_Md_chainFor 11 = .ok (.goto 7, 3) := by decide +kernel
theorem d_Md_chainFor_14 : decode b_Md_chainFor 14 = .ok (.iload_n 1, 1) := by decide +kernel
theorem d_Md_chainFor_15 : decode b_Md_chainFor 15 = .ok (.invokestatic 239, 3) := by decide +kernel
theorem d_Md_chainFor_18 : decode b_Md_chainFor 18 = .ok (.istore_n 3, 1) := by decide +kernel
theorem d_Md_chainFor_19 : decode b_Md_chainFor 19 = .ok (.iload_n 1, 1) := by decide +kernel
theorem d_Md_chainFor_20 : decode b_Md_chainFor 20 = .ok (.bipush 64, 2) := by decide +kernel
theorem d_Md_chainFor_22 : decode b_Md_chainFor 22 = .ok (.irem, 1) := by decide +kernel
theorem d_Md_chainFor_23 : decode b_Md_chainFor 23 = .ok (.ifCond .ne 19, 3) := by decide +kernel
theorem d_Md_chainFor_26 : decode b_Md_chainFor 26 = .ok (.iload_n 2, 1) := by decide +kernel
theorem d_Md_chainFor_27 : decode b_Md_chainFor 27 = .ok (.ifCond .ne 15, 3) := by decide +kernel
theorem d_Md_chainFor_30 : decode b_Md_chainFor 30 = .ok (.iload_n 3, 1) := by decide +kernel
theorem d_Md_chainFor_31 : decode b_Md_chainFor 31 = .ok (.aload_n 0, 1) := by decide +kernel
theorem d_Md_chainFor_32 : decode b_Md_chainFor 32 = .ok (.getfield 220, 3) := by decide +kernel
theorem d_Md_chainFor_35 : decode b_Md_chainFor 35 = .ok (.if_icmp .lt 7, 3) := by decide +kernel
theorem d_Md_chainFor_38 : decode b_Md_chainFor 38 = .ok (.iload_n 3, 1) := by decide +kernel
theorem d_Md_chainFor_39 : decode b_Md_chainFor 39 = .ok (.iconst 1, 1) := by decide +kernel
theorem d_Md_chainFor_40 : decode b_Md_chainFor 40 = .ok (.isub, 1) := by decide +kernel
theorem d_Md_chainFor_41 : decode b_Md_chainFor 41 = .ok (.istore_n 3, 1) := by decide +kernel
theorem d_Md_chainFor_42 : decode b_Md_chainFor 42 = .ok (.iload_n 3, 1) := by decide +kernel
theorem d_Md_chainFor_43 : decode b_Md_chainFor 43 = .ok (.iconst 0, 1) := by decide +kernel
theorem d_Md_chainFor_44 : decode b_Md_chainFor 44 = .ok (.aload_n 0, 1) := by decide +kernel
theorem d_Md_chainFor_45 : decode b_Md_chainFor 45 = .ok (.getfield 220, 3) := by decide +kernel
theorem d_Md_chainFor_48 : decode b_Md_chainFor 48 = .ok (.iconst 1, 1) := by decide +kernel
theorem d_Md_chainFor_49 : decode b_Md_chainFor 49 = .ok (.isub, 1) := by decide +kernel
theorem d_Md_chainFor_50 : decode b_Md_chainFor 50 = .ok (.invokestatic 231, 3) := by decide +kernel
theorem d_Md_chainFor_53 : decode b_Md_chainFor 53 = .ok (.ifCond .eq 7, 3) := by decide +kernel
theorem d_Md_chainFor_56 : decode b_Md_chainFor 56 = .ok (.iload_n 3, 1) := by decide +kernel
theorem d_Md_chainFor_57 : decode b_Md_chainFor 57 = .ok (.goto 4, 3) := by decide +kernel
theorem d_Md_chainFor_60 : decode b_Md_chainFor 60 = .ok (.iconst (-1), 1) := by decide +kernel
theorem d_Md_chainFor_61 : decode b_Md_chainFor 61 = .ok (.ireturn, 1) := by decide +kernel
theorem d_Md_key_0 : decode b_Md_key 0 = .ok (.aload_n 0, 1) := by decide +kernel
theorem d_Md_key_1 : decode b_Md_key 1 = .ok (.iconst 0, 1) := by decide +kernel
theorem d_Md_key_2 : decode b_Md_key 2 = .ok (.putfield 189, 3) := by decide +kernel
theorem d_Md_key_5 : decode b_Md_key 5 = .ok (.iload_n 1, 1) := by decide +kernel
theorem d_Md_key_6 : decode b_Md_key 6 = .ok (.iconst 0, 1) := by decide +kernel
theorem d_Md_key_7 : decode b_Md_key 7 = .ok (.sipush 512, 3) := by decide +kernel
theorem d_Md_key_10 : decode b_Md_key 10 = .ok (.invokestatic 231, 3) := by decide +kernel
theorem d_Md_key_13 : decode b_Md_key 13 = .ok (.ifCond .eq 13, 3) := by decide +kernel
theorem d_Md_key_16 : decode b_Md_key 16 = .ok (.iload_n 2, 1) := by decide +kernel
theorem d_Md_key_17 : decode b_Md_key 17 = .ok (.iconst 0, 1) := by decide +kernel
theorem d_Md_key_18 : decode b_Md_key 18 = .ok (.bipush 19, 2) := by decide +kernel
theorem d_Md_key_20 : decode b_Md_key 20 = .ok (.invokestatic 231, 3) := by decide +kernel
theorem d_Md_key_23 : decode b_Md_key 23 = .ok (.ifCond .ne 9, 3) := by decide +kernel
theorem d_Md_key_26 : decode b_Md_key 26 = .ok (.aload_n 0, 1) := by decide +kernel
theorem d_Md_key_27 : decode b_Md_key 27 = .ok (.iconst 1, 1) := by decide +kernel
theorem d_Md_key_28 : decode b_Md_key 28 = .ok (.invokevirtual 223, 3) := by decide +kernel
theorem d_Md_key_31 : decode b_Md_key 31 = .ok (.ireturn, 1) := by decide +kernel
theorem d_Md_key_32 : decode b_Md_key 32 = .ok (.aload_n 0, 1) := by decide +kernel
theorem d_Md_key_33 : decode b_Md_key 33 = .ok (.iload_n 1, 1) := by decide +kernel
theorem d_Md_key_34 : decode b_Md_key 34 = .ok (.iconst 0, 1) := by decide +kernel
theorem d_Md_key_35 : decode b_Md_key 35 = .ok (.invokevirtual 255, 3) := by decide +kernel
theorem d_Md_key_38 : decode b_Md_key 38 = .ok (.istore_n 3, 1) := by decide +kernel
theorem d_Md_key_39 : decode b_Md_key 39 = .ok (.iload_n 3, 1) := by decide +kernel
theorem d_Md_key_40 : decode b_Md_key 40 = .ok (.ifCond .ge 11, 3) := by decide +kernel
theorem d_Md_key_43 : decode b_Md_key 43 = .ok (.aload_n 0, 1) := by decide +kernel
theorem d_Md_key_44 : decode b_Md_key 44 = .ok (.iconst 2, 1) := by decide +kernel
theorem d_Md_key_45 : decode b_Md_key 45 = .ok (.invokevirtual 223, 3) := by decide +kernel
theorem d_Md_key_48 : decode b_Md_key 48 = .ok (.goto 15, 3) := by decide +kernel
theorem d_Md_key_51 : decode b_Md_key 51 = .ok (.aload_n 0, 1) := by decide +kernel
theorem d_Md_key_52 : decode b_Md_key 52 = .ok (.iload_n 3, 1) := by decide +kernel
theorem d_Md_key_53 : decode b_Md_key 53 = .ok (.iload_n 1, 1) := by decide +kernel
theorem d_Md_key_54 : decode b_Md_key 54 = .ok (.bipush 64, 2) := by decide +kernel
theorem d_Md_key_56 : decode b_Md_key 56 = .ok (.iload_n 3, 1) := by decide +kernel
theorem d_Md_key_57 : decode b_Md_key 57 = .ok (.imul, 1) := by decide +kernel
theorem d_Md_key_58 : decode b_Md_key 58 = .ok (.isub, 1) := by decide +kernel
theorem d_Md_key_59 : decode b_Md_key 59 = .ok (.iload_n 2, 1) := by decide +kernel
theorem d_Md_key_60 : decode b_Md_key 60 = .ok (.invokevirtual 242, 3) := by decide +kernel
theorem d_Md_key_63 : decode b_Md_key 63 = .ok (.ireturn, 1) := by decide +kernel
theorem d_Md_join_0 : decode b_Md_join 0 = .ok (.aload_n 0, 1) := by decide +kernel
theorem d_Md_join_1 : decode b_Md_join 1 = .ok (.iconst 0, 1) := by decide +kernel
theorem d_Md_join_2 : decode b_Md_join 2 = .ok (.putfield 189, 3) := by decide +kernel
theorem d_Md_join_5 : decode b_Md_join 5 = .ok (.iload_n 1, 1) := by decide +kernel
theorem d_Md_join_6 : decode b_Md_join 6 = .ok (.iconst 0, 1) := by decide +kernel
theorem d_Md_join_7 : decode b_Md_join 7 = .ok (.bipush 7, 2) := by decide +kernel
theorem d_Md_join_9 : decode b_Md_join 9 = .ok (.invokestatic 231, 3) := by decide +kernel
theorem d_Md_join_12 : decode b_Md_join 12 = .ok (.ifCond .eq 14, 3) := by decide +kernel
theorem d_Md_join_15 : decode b_Md_join 15 = .ok (.iload_n 2, 1) := by decide +kernel
theorem d_Md_join_16 : decode b_Md_join 16 = .ok (.iconst 0, 1) := by decide +kernel
theorem d_Md_join_17 : decode b_Md_join 17 = .ok (.sipush 511, 3) := by decide +kernel
theorem d_Md_join_20 : decode b_Md_join 20 = .ok (.invokestatic 231, 3) := by decide +kernel
theorem d_Md_join_23 : decode b_Md_join 23 = .ok (.ifCond .ne 9, 3) := by decide +kernel
theorem d_Md_join_26 : decode b_Md_join 26 = .ok (.aload_n 0, 1) := by decide +kernel
theorem d_Md_join_27 : decode b_Md_join 27 = .ok (.iconst 1, 1) := by decide +kernel
theorem d_Md_join_28 : decode b_Md_join 28 = .ok (.putfield 189, 3) := by decide +kernel
theorem d_Md_join_31 : decode b_Md_join 31 = .ok (.return_, 1) := by decide +kernel
theorem d_Md_join_32 : decode b_Md_join 32 = .ok (.aload_n 0, 1) := by decide +kernel
theorem d_Md_join_33 : decode b_Md_join 33 = .ok (.iload_n 2, 1) := by decide +kernel
theorem d_Md_join_34 : decode b_Md_join 34 = .ok (.iconst 1, 1) := by decide +kernel
theorem d_Md_join_35 : decode b_Md_join 35 = .ok (.invokevirtual 255, 3) := by decide +kernel
theorem d_Md_join_38 : decode b_Md_join 38 = .ok (.istore_n 3, 1) := by decide +kernel
theorem d_Md_join_39 : decode b_Md_join 39 = .ok (.iload_n 3, 1) := by decide +kernel
theorem d_Md_join_40 : decode b_Md_join 40 = .ok (.ifCond .ge 9, 3) := by decide +kernel
theorem d_Md_join_43 : decode b_Md_join 43 = .ok (.aload_n 0, 1) := by decide +kernel
theorem d_Md_join_44 : decode b_Md_join 44 = .ok (.iconst 2, 1) := by decide +kernel
theorem d_Md_join_45 : decode b_Md_join 45 = .ok (.putfield 189, 3) := by decide +kernel
theorem d_Md_join_48 : decode b_Md_join 48 = .ok (.return_, 1) := by decide +kernel
theorem d_Md_join_49 : decode b_Md_join 49 = .ok (.iconst 0, 1) := by decide +kernel
theorem d_Md_join_50 : decode b_Md_join 50 = .ok (.istore 4, 2) := by decide +kernel
theorem d_Md_join_52 : decode b_Md_join 52 = .ok (.iload 4, 2) := by decide +kernel
theorem d_Md_join_54 : decode b_Md_join 54 = .ok (.bipush 8, 2) := by decide +kernel
theorem d_Md_join_56 : decode b_Md_join 56 = .ok (.if_icmp .ge 22, 3) := by decide +kernel
theorem d_Md_join_59 : decode b_Md_join 59 = .ok (.aload_n 0, 1) := by decide +kernel
theorem d_Md_join_60 : decode b_Md_join 60 = .ok (.getfield 124, 3) := by decide +kernel
theorem d_Md_join_63 : decode b_Md_join 63 = .ok (.bipush 8, 2) := by decide +kernel
theorem d_Md_join_65 : decode b_Md_join 65 = .ok (.iload_n 1, 1) := by decide +kernel
theorem d_Md_join_66 : decode b_Md_join 66 = .ok (.imul, 1) := by decide +kernel
theorem d_Md_join_67 : decode b_Md_join 67 = .ok (.iload 4, 2) := by decide +kernel
theorem d_Md_join_69 : decode b_Md_join 69 = .ok (.iadd, 1) := by decide +kernel
theorem d_Md_join_70 : decode b_Md_join 70 = .ok (.iconst 0, 1) := by decide +kernel
theorem d_Md_join_71 : decode b_Md_join 71 = .ok (.bastore, 1) := by decide +kernel
theorem d_Md_join_72 : decode b_Md_join 72 = .ok (.iinc 4 1, 3) := by decide +kernel
theorem d_Md_join_75 : decode b_Md_join 75 = .ok (.goto (-23), 3) := by decide +kernel
theorem d_Md_join_78 : decode b_Md_join 78 = .ok (.iconst 0, 1) := by decide +kernel
theorem d_Md_join_79 : decode b_Md_join 79 = .ok (.istore 4, 2) := by decide +kernel
theorem d_Md_join_81 : decode b_Md_join 81 = .ok (.iload 4, 2) := by decide +kernel
theorem d_Md_join_83 : decode b_Md_join 83 = .ok (.bipush 8, 2) := by decide +kernel
theorem d_Md_join_85 : decode b_Md_join 85 = .ok (.if_icmp .ge 22, 3) := by decide +kernel
theorem d_Md_join_88 : decode b_Md_join 88 = .ok (.aload_n 0, 1) := by decide +kernel
theorem d_Md_join_89 : decode b_Md_join 89 = .ok (.getfield 137, 3) := by decide +kernel
theorem d_Md_join_92 : decode b_Md_join 92 = .ok (.bipush 8, 2) := by decide +kernel
theorem d_Md_join_94 : decode b_Md_join 94 = .ok (.iload_n 1, 1) := by decide +kernel
theorem d_Md_join_95 : decode b_Md_join 95 = .ok (.imul, 1) := by decide +kernel
theorem d_Md_join_96 : decode b_Md_join 96 = .ok (.iload 4, 2) := by decide +kernel
theorem d_Md_join_98 : decode b_Md_join 98 = .ok (.iadd, 1) := by decide +kernel
theorem d_Md_join_99 : decode b_Md_join 99 = .ok (.iconst 0, 1) := by decide +kernel
theorem d_Md_join_100 : decode b_Md_join 100 = .ok (.iastore, 1) := by decide +kernel
theorem d_Md_join_101 : decode b_Md_join 101 = .ok (.iinc 4 1, 3) := by decide +kernel
theorem d_Md_join_104 : decode b_Md_join 104 = .ok (.goto (-23), 3) := by decide +kernel
theorem d_Md_join_107 : decode b_Md_join 107 = .ok (.aload_n 0, 1) := by decide +kernel
theorem d_Md_join_108 : decode b_Md_join 108 = .ok (.getfield 140, 3) := by decide +kernel
theorem d_Md_join_111 : decode b_Md_join 111 = .ok (.iload_n 1, 1) := by decide +kernel
theorem d_Md_join_112 : decode b_Md_join 112 = .ok (.iconst 0, 1) := by decide +kernel
theorem d_Md_join_113 : decode b_Md_join 113 = .ok (.iastore, 1) := by decide +kernel
theorem d_Md_join_114 : decode b_Md_join 114 = .ok (.aload_n 0, 1) := by decide +kernel
theorem d_Md_join_115 : decode b_Md_join 115 = .ok (.getfield 149, 3) := by decide +kernel
theorem d_Md_join_118 : decode b_Md_join 118 = .ok (.iload_n 1, 1) := by decide +kernel
theorem d_Md_join_119 : decode b_Md_join 119 = .ok (.iconst 0, 1) := by decide +kernel
theorem d_Md_join_120 : decode b_Md_join 120 = .ok (.iastore, 1) := by decide +kernel
theorem d_Md_join_121 : decode b_Md_join 121 = .ok (.aload_n 0, 1) := by decide +kernel
theorem d_Md_join_122 : decode b_Md_join 122 = .ok (.getfield 124, 3) := by decide +kernel
theorem d_Md_join_125 : decode b_Md_join 125 = .ok (.bipush 8, 2) := by decide +kernel
theorem d_Md_join_127 : decode b_Md_join 127 = .ok (.iload_n 1, 1) := by decide +kernel
theorem d_Md_join_128 : decode b_Md_join 128 = .ok (.imul, 1) := by decide +kernel
theorem d_Md_join_129 : decode b_Md_join 129 = .ok (.iload_n 3, 1) := by decide +kernel
theorem d_Md_join_130 : decode b_Md_join 130 = .ok (.iadd, 1) := by decide +kernel
theorem d_Md_join_131 : decode b_Md_join 131 = .ok (.iconst 1, 1) := by decide +kernel
theorem d_Md_join_132 : decode b_Md_join 132 = .ok (.bastore, 1) := by decide +kernel
theorem d_Md_join_133 : decode b_Md_join 133 = .ok (.aload_n 0, 1) := by decide +kernel
theorem d_Md_join_134 : decode b_Md_join 134 = .ok (.getfield 128, 3) := by decide +kernel
theorem d_Md_join_137 : decode b_Md_join 137 = .ok (.bipush 8, 2) := by decide +kernel
theorem d_Md_join_139 : decode b_Md_join 139 = .ok (.iload_n 1, 1) := by decide +kernel
theorem d_Md_join_140 : decode b_Md_join 140 = .ok (.imul, 1) := by decide +kernel
theorem d_Md_join_141 : decode b_Md_join 141 = .ok (.iload_n 3, 1) := by decide +kernel
theorem d_Md_join_142 : decode b_Md_join 142 = .ok (.iadd, 1) := by decide +kernel
theorem d_Md_join_143 : decode b_Md_join 143 = .ok (.iload_n 2, 1) := by decide +kernel
theorem d_Md_join_144 : decode b_Md_join 144 = .ok (.iastore, 1) := by decide +kernel
theorem d_Md_join_145 : decode b_Md_join 145 = .ok (.aload_n 0, 1) := by decide +kernel
theorem d_Md_join_146 : decode b_Md_join 146 = .ok (.getfield 131, 3) := by decide +kernel
theorem d_Md_join_149 : decode b_Md_join 149 = .ok (.bipush 8, 2) := by decide +kernel
theorem d_Md_join_151 : decode b_Md_join 151 = .ok (.iload_n 1, 1) := by decide +kernel
theorem d_Md_join_152 : decode b_Md_join 152 = .ok (.imul, 1) := by decide +kernel
theorem d_Md_join_153 : decode b_Md_join 153 = .ok (.iload_n 3, 1) := by decide +kernel
theorem d_Md_join_154 : decode b_Md_join 154 = .ok (.iadd, 1) := by decide +kernel
theorem d_Md_join_155 : decode b_Md_join 155 = .ok (.iload_n 2, 1) := by decide +kernel
theorem d_Md_join_156 : decode b_Md_join 156 = .ok (.iastore, 1) := by decide +kernel
theorem d_Md_join_157 : decode b_Md_join 157 = .ok (.iconst 0, 1) := by decide +kernel
theorem d_Md_join_158 : decode b_Md_join 158 = .ok (.istore 4, 2) := by decide +kernel
theorem d_Md_join_160 : decode b_Md_join 160 = .ok (.iload 4, 2) := by decide +kernel
theorem d_Md_join_162 : decode b_Md_join 162 = .ok (.bipush 20, 2) := by decide +kernel
theorem d_Md_join_164 : decode b_Md_join 164 = .ok (.if_icmp .ge 39, 3) := by decide +kernel
theorem d_Md_join_167 : decode b_Md_join 167 = .ok (.aload_n 0, 1) := by decide +kernel
theorem d_Md_join_168 : decode b_Md_join 168 = .ok (.getfield 134, 3) := by decide +kernel
theorem d_Md_join_171 : decode b_Md_join 171 = .ok (.bipush 20, 2) := by decide +kernel
theorem d_Md_join_173 : decode b_Md_join 173 = .ok (.bipush 8, 2) := by decide +kernel
theorem d_Md_join_175 : decode b_Md_join 175 = .ok (.iload_n 1, 1) := by decide +kernel
theorem d_Md_join_176 : decode b_Md_join 176 = .ok (.imul, 1) := by decide +kernel
theorem d_Md_join_177 : decode b_Md_join 177 = .ok (.iload_n 3, 1) := by decide +kernel
theorem d_Md_join_178 : decode b_Md_join 178 = .ok (.iadd, 1) := by decide +kernel
theorem d_Md_join_179 : decode b_Md_join 179 = .ok (.imul, 1) := by decide +kernel
theorem d_Md_join_180 : decode b_Md_join 180 = .ok (.iload 4, 2) := by decide +kernel
theorem d_Md_join_182 : decode b_Md_join 182 = .ok (.iadd, 1) := by decide +kernel
theorem d_Md_join_183 : decode b_Md_join 183 = .ok (.aload_n 0, 1) := by decide +kernel
theorem d_Md_join_184 : decode b_Md_join 184 = .ok (.iload_n 3, 1) := by decide +kernel
theorem d_Md_join_185 : decode b_Md_join 185 = .ok (.iload_n 2, 1) := by decide +kernel
theorem d_Md_join_186 : decode b_Md_join 186 = .ok (.bipush 64, 2) := by decide +kernel
theorem d_Md_join_188 : decode b_Md_join 188 = .ok (.iload_n 3, 1) := by decide +kernel
theorem d_Md_join_189 : decode b_Md_join 189 = .ok (.imul, 1) := by decide +kernel
theorem d_Md_join_190 : decode b_Md_join 190 = .ok (.isub, 1) := by decide +kernel
theorem d_Md_join_191 : decode b_Md_join 191 = .ok (.iload 4, 2) := by decide +kernel
theorem d_Md_join_193 : decode b_Md_join 193 = .ok (.invokevirtual 242, 3) := by decide +kernel
theorem d_Md_join_196 : decode b_Md_join 196 = .ok (.iastore, 1) := by decide +kernel
theorem d_Md_join_197 : decode b_Md_join 197 = .ok (.iinc 4 1, 3) := by decide +kernel
theorem d_Md_join_200 : decode b_Md_join 200 = .ok (.goto (-40), 3) := by decide +kernel
theorem d_Md_join_203 : decode b_Md_join 203 = .ok (.return_, 1) := by decide +kernel
theorem d_Md_drift_0 : decode b_Md_drift 0 = .ok (.aload_n 0, 1) := by decide +kernel
theorem d_Md_drift_1 : decode b_Md_drift 1 = .ok (.iconst 0, 1) := by decide +kernel
theorem d_Md_drift_2 : decode b_Md_drift 2 = .ok (.putfield 189, 3) := by decide +kernel
theorem d_Md_drift_5 : decode b_Md_drift 5 = .ok (.iload_n 1, 1) := by decide +kernel
theorem d_Md_drift_6 : decode b_Md_drift 6 = .ok (.iconst 0, 1) := by decide +kernel
theorem d_Md_drift_7 : decode b_Md_drift 7 = .ok (.bipush 7, 2) := by decide +kernel
theorem d_Md_drift_9 : decode b_Md_drift 9 = .ok (.invokestatic 231, 3) := by decide +kernel
theorem d_Md_drift_12 : decode b_Md_drift 12 = .ok (.ifCond .ne 9, 3) := by decide +kernel
theorem d_Md_drift_15 : decode b_Md_drift 15 = .ok (.aload_n 0, 1) := by decide +kernel
theorem d_Md_drift_16 : decode b_Md_drift 16 = .ok (.iconst 1, 1) := by decide +kernel
theorem d_Md_drift_17 : decode b_Md_drift 17 = .ok (.invokevirtual 223, 3) := by decide +kernel
theorem d_Md_drift_20 : decode b_Md_drift 20 = .ok (.ireturn, 1) := by decide +kernel
theorem d_Md_drift_21 : decode b_Md_drift 21 = .ok (.iload_n 2, 1) := by decide +kernel
theorem d_Md_drift_22 : decode b_Md_drift 22 = .ok (.sipush (-10000), 3) := by decide +kernel
theorem d_Md_drift_25 : decode b_Md_drift 25 = .ok (.sipush 10000, 3) := by decide +kernel
theorem d_Md_drift_28 : decode b_Md_drift 28 = .ok (.invokestatic 231, 3) := by decide +kernel
theorem d_Md_drift_31 : decode b_Md_drift 31 = .ok (.ifCond .ne 9, 3) := by decide +kernel
theorem d_Md_drift_34 : decode b_Md_drift 34 = .ok (.aload_n 0, 1) := by decide +kernel
theorem d_Md_drift_35 : decode b_Md_drift 35 = .ok (.iconst 2, 1) := by decide +kernel
theorem d_Md_drift_36 : decode b_Md_drift 36 = .ok (.invokevirtual 223, 3) := by decide +kernel
theorem d_Md_drift_39 : decode b_Md_drift 39 = .ok (.ireturn, 1) := by decide +kernel
theorem d_Md_drift_40 : decode b_Md_drift 40 = .ok (.aload_n 0, 1) := by decide +kernel
theorem d_Md_drift_41 : decode b_Md_drift 41 = .ok (.getfield 121, 3) := by decide +kernel
theorem d_Md_drift_44 : decode b_Md_drift 44 = .ok (.iload_n 1, 1) := by decide +kernel
theorem d_Md_drift_45 : decode b_Md_drift 45 = .ok (.iaload, 1) := by decide +kernel
theorem d_Md_drift_46 : decode b_Md_drift 46 = .ok (.istore_n 3, 1) := by decide +kernel
theorem d_Md_drift_47 : decode b_Md_drift 47 = .ok (.aload_n 0, 1) := by decide +kernel
theorem d_Md_drift_48 : decode b_Md_drift 48 = .ok (.getfield 121, 3) := by decide +kernel
theorem d_Md_drift_51 : decode b_Md_drift 51 = .ok (.iload_n 1, 1) := by decide +kernel
theorem d_Md_drift_52 : decode b_Md_drift 52 = .ok (.iload_n 2, 1) := by decide +kernel
theorem d_Md_drift_53 : decode b_Md_drift 53 = .ok (.iastore, 1) := by decide +kernel
theorem d_Md_drift_54 : decode b_Md_drift 54 = .ok (.iload_n 3, 1) := by decide +kernel
theorem d_Md_drift_55 : decode b_Md_drift 55 = .ok (.ireturn, 1) := by decide +kernel
