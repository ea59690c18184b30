theorem d_Md_judge_0 : decode b_Md_judge 0 = .ok (.aload_n 0, 1) := by decide +kernel
theorem d_Md_judge_1 : decode b_Md_judge 1 = .ok (.iload_n 2, 1) := by decide +kernel
theorem d_Md_judge_2 : decode b_Md_judge 2 = .ok (.invokevirtual 283, 3) := by decide +kernel
theorem d_Md_judge_5 : decode b_Md_judge 5 = .ok (.ifCond .eq 5, 3) := by decide +kernel
theorem d_Md_judge_8 : decode b_Md_judge 8 = .ok (.iconst 5, 1) := by decide +kernel
theorem d_Md_judge_9 : decode b_Md_judge 9 = .ok (.ireturn, 1) := by decide +kernel
theorem d_Md_judge_10 : decode b_Md_judge 10 = .ok (.aload_n 0, 1) := by decide +kernel
theorem d_Md_judge_11 : decode b_Md_judge 11 = .ok (.iload_n 1, 1) := by decide +kernel
theorem d_Md_judge_12 : decode b_Md_judge 12 = .ok (.invokevirtual 287, 3) := by decide +kernel
theorem d_Md_judge_15 : decode b_Md_judge 15 = .ok (.istore_n 3, 1) := by decide +kernel
theorem d_Md_judge_16 : decode b_Md_judge 16 = .ok (.iload_n 3, 1) := by decide +kernel
theorem d_Md_judge_17 : decode b_Md_judge 17 = .ok (.iconst 2, 1) := by decide +kernel
theorem d_Md_judge_18 : decode b_Md_judge 18 = .ok (.if_icmp .ne 5, 3) := by decide +kernel
theorem d_Md_judge_21 : decode b_Md_judge 21 = .ok (.iconst 2, 1) := by decide +kernel
theorem d_Md_judge_22 : decode b_Md_judge 22 = .ok (.ireturn, 1) := by decide +kernel
theorem d_Md_judge_23 : decode b_Md_judge 23 = .ok (.iload_n 3, 1) := by decide +kernel
theorem d_Md_judge_24 : decode b_Md_judge 24 = .ok (.iconst 1, 1) := by decide +kernel
theorem d_Md_judge_25 : decode b_Md_judge 25 = .ok (.if_icmp .ne 8, 3) := by decide +kernel
theorem d_Md_judge_28 : decode b_Md_judge 28 = .ok (.aload_n 0, 1) := by decide +kernel
theorem d_Md_judge_29 : decode b_Md_judge 29 = .ok (.iload_n 1, 1) := by decide +kernel
theorem d_Md_judge_30 : decode b_Md_judge 30 = .ok (.invokevirtual 290, 3) := by decide +kernel
theorem d_Md_judge_33 : decode b_Md_judge 33 = .ok (.aload_n 0, 1) := by decide +kernel
theorem d_Md_judge_34 : decode b_Md_judge 34 = .ok (.invokevirtual 259, 3) := by decide +kernel
theorem d_Md_judge_37 : decode b_Md_judge 37 = .ok (.istore 4, 2) := by decide +kernel
theorem d_Md_judge_39 : decode b_Md_judge 39 = .ok (.bipush 8, 2) := by decide +kernel
theorem d_Md_judge_41 : decode b_Md_judge 41 = .ok (.iload_n 1, 1) := by decide +kernel
theorem d_Md_judge_42 : decode b_Md_judge 42 = .ok (.imul, 1) := by decide +kernel
theorem d_Md_judge_43 : decode b_Md_judge 43 = .ok (.iload 4, 2) := by decide +kernel
theorem d_Md_judge_45 : decode b_Md_judge 45 = .ok (.invokestatic 239, 3) := by decide +kernel
theorem d_Md_judge_48 : decode b_Md_judge 48 = .ok (.iadd, 1) := by decide +kernel
theorem d_Md_judge_49 : decode b_Md_judge 49 = .ok (.istore 5, 2) := by decide +kernel
theorem d_Md_judge_51 : decode b_Md_judge 51 = .ok (.aload_n 0, 1) := by decide +kernel
theorem d_Md_judge_52 : decode b_Md_judge 52 = .ok (.getfield 217, 3) := by decide +kernel
theorem d_Md_judge_55 : decode b_Md_judge 55 = .ok (.aload_n 0, 1) := by decide +kernel
theorem d_Md_judge_56 : decode b_Md_judge 56 = .ok (.getfield 121, 3) := by decide +kernel
theorem d_Md_judge_59 : decode b_Md_judge 59 = .ok (.iload_n 1, 1) := by decide +kernel
theorem d_Md_judge_60 : decode b_Md_judge 60 = .ok (.iaload, 1) := by decide +kernel
theorem d_Md_judge_61 : decode b_Md_judge 61 = .ok (.iadd, 1) := by decide +kernel
theorem d_Md_judge_62 : decode b_Md_judge 62 = .ok (.aload_n 0, 1) := by decide +kernel
theorem d_Md_judge_63 : decode b_Md_judge 63 = .ok (.getfield 186, 3) := by decide +kernel
theorem d_Md_judge_66 : decode b_Md_judge 66 = .ok (.iadd, 1) := by decide +kernel
theorem d_Md_judge_67 : decode b_Md_judge 67 = .ok (.iload 4, 2) := by decide +kernel
theorem d_Md_judge_69 : decode b_Md_judge 69 = .ok (.aload_n 0, 1) := by decide +kernel
theorem d_Md_judge_70 : decode b_Md_judge 70 = .ok (.getfield 179, 3) := by decide +kernel
theorem d_Md_judge_73 : decode b_Md_judge 73 = .ok (.iadd, 1) := by decide +kernel
theorem d_Md_judge_74 : decode b_Md_judge 74 = .ok (.iconst 1, 1) := by decide +kernel
theorem d_Md_judge_75 : decode b_Md_judge 75 = .ok (.isub, 1) := by decide +kernel
theorem d_Md_judge_76 : decode b_Md_judge 76 = .ok (.aload_n 0, 1) := by decide +kernel
theorem d_Md_judge_77 : decode b_Md_judge 77 = .ok (.getfield 183, 3) := by decide +kernel
theorem d_Md_judge_80 : decode b_Md_judge 80 = .ok (.imul, 1) := by decide +kernel
theorem d_Md_judge_81 : decode b_Md_judge 81 = .ok (.if_icmp .ge 25, 3) := by decide +kernel
theorem d_Md_judge_84 : decode b_Md_judge 84 = .ok (.aload_n 0, 1) := by decide +kernel
theorem d_Md_judge_85 : decode b_Md_judge 85 = .ok (.getfield 124, 3) := by decide +kernel
theorem d_Md_judge_88 : decode b_Md_judge 88 = .ok (.iload 5, 2) := by decide +kernel
theorem d_Md_judge_90 : decode b_Md_judge 90 = .ok (.baload, 1) := by decide +kernel
theorem d_Md_judge_91 : decode b_Md_judge 91 = .ok (.ifCond .eq 17, 3) := by decide +kernel
theorem d_Md_judge_94 : decode b_Md_judge 94 = .ok (.aload_n 0, 1) := by decide +kernel
theorem d_Md_judge_95 : decode b_Md_judge 95 = .ok (.getfield 131, 3) := by decide +kernel
theorem d_Md_judge_98 : decode b_Md_judge 98 = .ok (.iload 5, 2) := by decide +kernel
theorem d_Md_judge_100 : decode b_Md_judge 100 = .ok (.iaload, 1) := by decide +kernel
theorem d_Md_judge_101 : decode b_Md_judge 101 = .ok (.iload 4, 2) := by decide +kernel
theorem d_Md_judge_103 : decode b_Md_judge 103 = .ok (.if_icmp .lt 5, 3) := by decide +kernel
theorem d_Md_judge_106 : decode b_Md_judge 106 = .ok (.iconst 1, 1) := by decide +kernel
theorem d_Md_judge_107 : decode b_Md_judge 107 = .ok (.ireturn, 1) := by decide +kernel
theorem d_Md_judge_108 : decode b_Md_judge 108 = .ok (.aload_n 0, 1) := by decide +kernel
theorem d_Md_judge_109 : decode b_Md_judge 109 = .ok (.iload_n 1, 1) := by decide +kernel
theorem d_Md_judge_110 : decode b_Md_judge 110 = .ok (.invokevirtual 293, 3) := by decide +kernel
theorem d_Md_judge_113 : decode b_Md_judge 113 = .ok (.ifCond .eq 5, 3) := by decide +kernel
theorem d_Md_judge_116 : decode b_Md_judge 116 = .ok (.iconst 3, 1) := by decide +kernel
theorem d_Md_judge_117 : decode b_Md_judge 117 = .ok (.ireturn, 1) := by decide +kernel
theorem d_Md_judge_118 : decode b_Md_judge 118 = .ok (.aload_n 0, 1) := by decide +kernel
theorem d_Md_judge_119 : decode b_Md_judge 119 = .ok (.getfield 140, 3) := by decide +kernel
theorem d_Md_judge_122 : decode b_Md_judge 122 = .ok (.iload_n 1, 1) := by decide +kernel
theorem d_Md_judge_123 : decode b_Md_judge 123 = .ok (.iaload, 1) := by decide +kernel
theorem d_Md_judge_124 : decode b_Md_judge 124 = .ok (.bipush 16, 2) := by decide +kernel
theorem d_Md_judge_126 : decode b_Md_judge 126 = .ok (.if_icmp .ne 5, 3) := by decide +kernel
theorem d_Md_judge_129 : decode b_Md_judge 129 = .ok (.iconst 4, 1) := by decide +kernel
theorem d_Md_judge_130 : decode b_Md_judge 130 = .ok (.ireturn, 1) := by decide +kernel
theorem d_Md_judge_131 : decode b_Md_judge 131 = .ok (.aload_n 0, 1) := by decide +kernel
theorem d_Md_judge_132 : decode b_Md_judge 132 = .ok (.getfield 143, 3) := by decide +kernel
theorem d_Md_judge_135 : decode b_Md_judge 135 = .ok (.bipush 16, 2) := by decide +kernel
theorem d_Md_judge_137 : decode b_Md_judge 137 = .ok (.iload_n 1, 1) := by decide +kernel
theorem d_Md_judge_138 : decode b_Md_judge 138 = .ok (.imul, 1) := by decide +kernel
theorem d_Md_judge_139 : decode b_Md_judge 139 = .ok (.aload_n 0, 1) := by decide +kernel
theorem d_Md_judge_140 : decode b_Md_judge 140 = .ok (.getfield 140, 3) := by decide +kernel
theorem d_Md_judge_143 : decode b_Md_judge 143 = .ok (.iload_n 1, 1) := by decide +kernel
theorem d_Md_judge_144 : decode b_Md_judge 144 = .ok (.iaload, 1) := by decide +kernel
theorem d_Md_judge_145 : decode b_Md_judge 145 = .ok (.iadd, 1) := by decide +kernel
theorem d_Md_judge_146 : decode b_Md_judge 146 = .ok (.iload_n 2, 1) := by decide +kernel
theorem d_Md_judge_147 : decode b_Md_judge 147 = .ok (.iastore, 1) := by decide +kernel
theorem d_Md_judge_148 : decode b_Md_judge 148 = .ok (.iconst 0, 1) := by decide +kernel
theorem d_Md_judge_149 : decode b_Md_judge 149 = .ok (.istore 6, 2) := by decide +kernel
theorem d_Md_judge_151 : decode b_Md_judge 151 = .ok (.iload 6, 2) := by decide +kernel
theorem d_Md_judge_153 : decode b_Md_judge 153 = .ok (.iload_n 2, 1) := by decide +kernel
theorem d_Md_judge_154 : decode b_Md_judge 154 = .ok (.if_icmp .ge 35, 3) := by decide +kernel
theorem d_Md_judge_157 : decode b_Md_judge 157 = .ok (.aload_n 0, 1) := by decide +kernel
theorem d_Md_judge_158 : decode b_Md_judge 158 = .ok (.getfield 146, 3) := by decide +kernel
theorem d_Md_judge_161 : decode b_Md_judge 161 = .ok (.aload_n 0, 1) := by decide +kernel
theorem d_Md_judge_162 : decode b_Md_judge 162 = .ok (.iload_n 1, 1) := by decide +kernel
theorem d_Md_judge_163 : decode b_Md_judge 163 = .ok (.aload_n 0, 1) := by decide +kernel
theorem d_Md_judge_164 : decode b_Md_judge 164 = .ok (.getfield 140, 3) := by decide +kernel
theorem d_Md_judge_167 : decode b_Md_judge 167 = .ok (.iload_n 1, 1) := by decide +kernel
theorem d_Md_judge_168 : decode b_Md_judge 168 = .ok (.iaload, 1) := by decide +kernel
theorem d_Md_judge_169 : decode b_Md_judge 169 = .ok (.invokevirtual 265, 3) := by decide +kernel
theorem d_Md_judge_172 : decode b_Md_judge 172 = .ok (.iload 6, 2) := by decide +kernel
theorem d_Md_judge_174 : decode b_Md_judge 174 = .ok (.iadd, 1) := by decide +kernel
theorem d_Md_judge_175 : decode b_Md_judge 175 = .ok (.aload_n 0, 1) := by decide +kernel
theorem d_Md_judge_176 : decode b_Md_judge 176 = .ok (.getfield 166, 3) := by decide +kernel
theorem d_Md_judge_179 : decode b_Md_judge 179 = .ok (.iload 6, 2) := by decide +kernel
theorem d_Md_judge_181 : decode b_Md_judge 181 = .ok (.iaload, 1) := by decide +kernel
theorem d_Md_judge_182 : decode b_Md_judge 182 = .ok (.iastore, 1) := by decide +kernel
theorem d_Md_judge_183 : decode b_Md_judge 183 = .ok (.iinc 6 1, 3) := by decide +kernel
theorem d_Md_judge_186 : decode b_Md_judge 186 = .ok (.goto (-35), 3) := by decide +kernel
theorem d_Md_judge_189 : decode b_Md_judge 189 = .ok (.aload_n 0, 1) := by decide +kernel
theorem d_Md_judge_190 : decode b_Md_judge 190 = .ok (.getfield 140, 3) := by decide +kernel
theorem d_Md_judge_193 : decode b_Md_judge 193 = .ok (.iload_n 1, 1) := by decide +kernel
theorem d_Md_judge_194 : decode b_Md_judge 194 = .ok (.dup2, 1) := by decide +kernel
theorem d_Md_judge_195 : decode b_Md_judge 195 = .ok (.iaload, 1) := by decide +kernel
theorem d_Md_judge_196 : decode b_Md_judge 196 = .ok (.iconst 1, 1) := by decide +kernel
theorem d_Md_judge_197 : decode b_Md_judge 197 = .ok (.iadd, 1) := by decide +kernel
theorem d_Md_judge_198 : decode b_Md_judge 198 = .ok (.iastore, 1) := by decide +kernel
theorem d_Md_judge_199 : decode b_Md_judge 199 = .ok (.iconst 0, 1) := by decide +kernel
theorem d_Md_judge_200 : decode b_Md_judge 200 = .ok (.ireturn, 1) := by decide +kernel
theorem d_Md_arrive_0 : decode b_Md_arrive 0 = .ok (.aload_n 0, 1) := by decide +kernel
theorem d_Md_arrive_1 : decode b_Md_arrive 1 = .ok (.iconst 0, 1) := by decide +kernel
theorem d_Md_arrive_2 : decode b_Md_arrive 2 = .ok (.putfield 189, 3) := by decide +kernel
theorem d_Md_arrive_5 : decode b_Md_arrive 5 = .ok (.iload_n 1, 1) := by decide +kernel
theorem d_Md_arrive_6 : decode b_Md_arrive 6 = .ok (.iconst 0, 1) := by decide +kernel
theorem d_Md_arrive_7 : decode b_Md_arrive 7 = .ok (.bipush 7, 2) := by decide +kernel
theorem d_Md_arrive_9 : decode b_Md_arrive 9 = .ok (.invokestatic 231, 3) := by decide +kernel
theorem d_Md_arrive_12 : decode b_Md_arrive 12 = .ok (.ifCond .eq 33, 3) := by decide +kernel
theorem d_Md_arrive_15 : decode b_Md_arrive 15 = .ok (.iload_n 2, 1) := by decide +kernel
theorem d_Md_arrive_16 : decode b_Md_arrive 16 = .ok (.iconst 0, 1) := by decide +kernel
theorem d_Md_arrive_17 : decode b_Md_arrive 17 = .ok (.aload_n 0, 1) := by decide +kernel
theorem d_Md_arrive_18 : decode b_Md_arrive 18 = .ok (.getfield 249, 3) := by decide +kernel
theorem d_Md_arrive_21 : decode b_Md_arrive 21 = .ok (.iconst 1, 1) := by decide +kernel
theorem d_Md_arrive_22 : decode b_Md_arrive 22 = .ok (.isub, 1) := by decide +kernel
theorem d_Md_arrive_23 : decode b_Md_arrive 23 = .ok (.invokestatic 231, 3) := by decide +kernel
theorem d_Md_arrive_26 : decode b_Md_arrive 26 = .ok (.ifCond .eq 19, 3) := by decide +kernel
theorem d_Md_arrive_29 : decode b_Md_arrive 29 = .ok (.iload_n 3, 1) := by decide +kernel
theorem d_Md_arrive_30 : decode b_Md_arrive 30 = .ok (.iconst 0, 1) := by decide +kernel
theorem d_Md_arrive_31 : decode b_Md_arrive 31 = .ok (.aload_n 0, 1) := by decide +kernel
theorem d_Md_arrive_32 : decode b_Md_arrive 32 = .ok (.getfield 115, 3) := by decide +kernel
theorem d_Md_arrive_35 : decode b_Md_arrive 35 = .ok (.iload_n 2, 1) := by decide +kernel
theorem d_Md_arrive_36 : decode b_Md_arrive 36 = .ok (.iaload, 1) := by decide +kernel
theorem d_Md_arrive_37 : decode b_Md_arrive 37 = .ok (.iconst 1, 1) := by decide +kernel
theorem d_Md_arrive_38 : decode b_Md_arrive 38 = .ok (.isub, 1) := by decide +kernel
theorem d_Md_arrive_39 : decode b_Md_arrive 39 = .ok (.invokestatic 231, 3) := by decide +kernel
theorem d_Md_arrive_42 : decode b_Md_arrive 42 = .ok (.ifCond .ne 9, 3) := by decide +kernel
theorem d_Md_arrive_45 : decode b_Md_arrive 45 = .ok (.aload_n 0, 1) := by decide +kernel
theorem d_Md_arrive_46 : decode b_Md_arrive 46 = .ok (.iconst 1, 1) := by decide +kernel
theorem d_Md_arrive_47 : decode b_Md_arrive 47 = .ok (.invokevirtual 223, 3) := by decide +kernel
theorem d_Md_arrive_50 : decode b_Md_arrive 50 = .ok (.ireturn, 1) := by decide +kernel
theorem d_Md_arrive_51 : decode b_Md_arrive 51 = .ok (.iload 4, 2) := by decide +kernel
theorem d_Md_arrive_53 : decode b_Md_arrive 53 = .ok (.iconst 0, 1) := by decide +kernel
theorem d_Md_arrive_54 : decode b_Md_arrive 54 = .ok (.sipush 255, 3) := by decide +kernel
theorem d_Md_arrive_57 : decode b_Md_arrive 57 = .ok (.invokestatic 231, 3) := by decide +kernel
theorem d_Md_arrive_60 : decode b_Md_arrive 60 = .ok (.ifCond .ne 9, 3) := by decide +kernel
theorem d_Md_arrive_63 : decode b_Md_arrive 63 = .ok (.aload_n 0, 1) := by decide +kernel
theorem d_Md_arrive_64 : decode b_Md_arrive 64 = .ok (.iconst 2, 1) := by decide +kernel
theorem d_Md_arrive_65 : decode b_Md_arrive 65 = .ok (.invokevirtual 223, 3) := by decide +kernel
theorem d_Md_arrive_68 : decode b_Md_arrive 68 = .ok (.ireturn, 1) := by decide +kernel
theorem d_Md_arrive_69 : decode b_Md_arrive 69 = .ok (.iconst 0, 1) := by decide +kernel
theorem d_Md_arrive_70 : decode b_Md_arrive 70 = .ok (.istore 5, 2) := by decide +kernel
theorem d_Md_arrive_72 : decode b_Md_arrive 72 = .ok (.iload 5, 2) := by decide +kernel
theorem d_Md_arrive_74 : decode b_Md_arrive 74 = .ok (.aload_n 0, 1) := by decide +kernel
theorem d_Md_arrive_75 : decode b_Md_arrive 75 = .ok (.getfield 115, 3) := by decide +kernel
theorem d_Md_arrive_78 : decode b_Md_arrive 78 = .ok (.iload_n 2, 1) := by decide +kernel
theorem d_Md_arrive_79 : decode b_Md_arrive 79 = .ok (.iaload, 1) := by decide +kernel
theorem d_Md_arrive_80 : decode b_Md_arrive 80 = .ok (.if_icmp .ge 28, 3) := by decide +kernel
theorem d_Md_arrive_83 : decode b_Md_arrive 83 = .ok (.aload_n 0, 1) := by decide +kernel
theorem d_Md_arrive_84 : decode b_Md_arrive 84 = .ok (.getfield 166, 3) := by decide +kernel
theorem d_Md_arrive_87 : decode b_Md_arrive 87 = .ok (.iload 5, 2) := by decide +kernel
theorem d_Md_arrive_89 : decode b_Md_arrive 89 = .ok (.aload_n 0, 1) := by decide +kernel
theorem d_Md_arrive_90 : decode b_Md_arrive 90 = .ok (.getfield 118, 3) := by decide +kernel
theorem d_Md_arrive_93 : decode b_Md_arrive 93 = .ok (.bipush 68, 2) := by decide +kernel
theorem d_Md_arrive_95 : decode b_Md_arrive 95 = .ok (.iload_n 2, 1) := by decide +kernel
theorem d_Md_arrive_96 : decode b_Md_arrive 96 = .ok (.imul, 1) := by decide +kernel
theorem d_Md_arrive_97 : decode b_Md_arrive 97 = .ok (.iload 5, 2) := by decide +kernel
theorem d_Md_arrive_99 : decode b_Md_arrive 99 = .ok (.iadd, 1) := by decide +kernel
theorem d_Md_arrive_100 : decode b_Md_arrive 100 = .ok (.iaload, 1) := by decide +kernel
theorem d_Md_arrive_101 : decode b_Md_arrive 101 = .ok (.iastore, 1) := by decide +kernel
theorem d_Md_arrive_102 : decode b_Md_arrive 102 = .ok (.iinc 5 1, 3) := by decide +kernel
theorem d_Md_arrive_105 : decode b_Md_arrive 105 = .ok (.goto (-33), 3) := by decide +kernel
theorem d_Md_arrive_108 : decode b_Md_arrive 108 = .ok (.aload_n 0, 1) := by decide +kernel
theorem d_Md_arrive_109 : decode b_Md_arrive 109 = .ok (.getfield 166, 3) := by decide +kernel
theorem d_Md_arrive_112 : decode b_Md_arrive 112 = .ok (.iload_n 3, 1) := by decide +kernel
theorem d_Md_arrive_113 : decode b_Md_arrive 113 = .ok (.aload_n 0, 1) := by decide +kernel
theorem d_Md_arrive_114 : decode b_Md_arrive 114 = .ok (.getfield 166, 3) := by decide +kernel
theorem d_Md_arrive_117 : decode b_Md_arrive 117 = .ok (.iload_n 3, 1) := by decide +kernel
theorem d_Md_arrive_118 : decode b_Md_arrive 118 = .ok (.iaload, 1) := by decide +kernel
theorem d_Md_arrive_119 : decode b_Md_arrive 119 = .ok (.iload 4, 2) := by decide +kernel
theorem d_Md_arrive_121 : decode b_Md_arrive 121 = .ok (.ixor, 1) := by decide +kernel
theorem d_Md_arrive_122 : decode b_Md_arrive 122 = .ok (.iastore, 1) := by decide +kernel
theorem d_Md_arrive_123 : decode b_Md_arrive 123 = .ok (.aload_n 0, 1) := by decide +kernel
theorem d_Md_arrive_124 : decode b_Md_arrive 124 = .ok (.iload_n 1, 1) := by decide +kernel
theorem d_Md_arrive_125 : decode b_Md_arrive 125 = .ok (.aload_n 0, 1) := by decide +kernel
theorem d_Md_arrive_126 : decode b_Md_arrive 126 = .ok (.getfield 115, 3) := by decide +kernel
theorem d_Md_arrive_129 : decode b_Md_arrive 129 = .ok (.iload_n 2, 1) := by decide +kernel
theorem d_Md_arrive_130 : decode b_Md_arrive 130 = .ok (.iaload, 1) := by decide +kernel
theorem d_Md_arrive_131 : decode b_Md_arrive 131 = .ok (.invokevirtual 296, 3) := by decide +kernel
theorem d_Md_arrive_134 : decode b_Md_arrive 134 = .ok (.istore 5, 2) := by decide +kernel
theorem d_Md_arrive_136 : decode b_Md_arrive 136 = .ok (.aload_n 0, 1) := by decide +kernel
theorem d_Md_arrive_137 : decode b_Md_arrive 137 = .ok (.getfield 137, 3) := by decide +kernel
theorem d_Md_arrive_140 : decode b_Md_arrive 140 = .ok (.bipush 8, 2) := by decide +kernel
theorem d_Md_arrive_142 : decode b_Md_arrive 142 = .ok (.iload_n 1, 1) := by decide +kernel
theorem d_Md_arrive_143 : decode b_Md_arrive 143 = .ok (.imul, 1) := by decide +kernel
theorem d_Md_arrive_144 : decode b_Md_arrive 144 = .ok (.iload 5, 2) := by decide +kernel
theorem d_Md_arrive_146 : decode b_Md_arrive 146 = .ok (.iadd, 1) := by decide +kernel
theorem d_Md_arrive_147 : decode b_Md_arrive 147 = .ok (.dup2, 1) := by decide +kernel
theorem d_Md_arrive_148 : decode b_Md_arrive 148 = .ok (.iaload, 1) := by decide +kernel
theorem d_Md_arrive_149 : decode b_Md_arrive 149 = .ok (.iconst 1, 1) := by decide +kernel
theorem d_Md_arrive_150 : decode b_Md_arrive 150 = .ok (.iadd, 1) := by decide +kernel
theorem d_Md_arrive_151 : decode b_Md_arrive 151 = .ok (.iastore, 1) := by decide +kernel
theorem d_Md_arrive_152 : decode b_Md_arrive 152 = .ok (.iload 5, 2) := by decide +kernel
theorem d_Md_arrive_154 : decode b_Md_arrive 154 = .ok (.ireturn, 1) := by decide +kernel
theorem d_Md_receiver_0 : decode b_Md_receiver 0 = .ok (.aload_n 0, 1) := by decide +kernel
theorem d_Md_receiver_1 : decode b_Md_receiver 1 = .ok (.iconst 0, 1) := by decide +kernel
theorem d_Md_receiver_2 : decode b_Md_receiver 2 = .ok (.putfield 189, 3) := by decide +kernel
theorem d_Md_receiver_5 : decode b_Md_receiver 5 = .ok (.iload_n 1, 1) := by decide +kernel
theorem d_Md_receiver_6 : decode b_Md_receiver 6 = .ok (.iconst 0, 1) := by decide +kernel
theorem d_Md_receiver_7 : decode b_Md_receiver 7 = .ok (.bipush 7, 2) := by decide +kernel
theorem d_Md_receiver_9 : decode b_Md_receiver 9 = .ok (.invokestatic 231, 3) := by decide +kernel
theorem d_Md_receiver_12 : decode b_Md_receiver 12 = .ok (.ifCond .eq 13, 3) := by decide +kernel
theorem d_Md_receiver_15 : decode b_Md_receiver 15 = .ok (.iload_n 2, 1) := by decide +kernel
theorem d_Md_receiver_16 : decode b_Md_receiver 16 = .ok (.iconst 0, 1) := by decide +kernel
theorem d_Md_receiver_17 : decode b_Md_receiver 17 = .ok (.bipush 9, 2) := by decide +kernel
theorem d_Md_receiver_19 : decode b_Md_receiver 19 = .ok (.invokestatic 231, 3) := by decide +kernel
theorem d_Md_receiver_22 : decode b_Md_receiver 22 = .ok (.ifCond .ne 9, 3) := by decide +kernel
theorem d_Md_receiver_25 : decode b_Md_receiver 25 = .ok (.aload_n 0, 1) := by decide +kernel
theorem d_Md_receiver_26 : decode b_Md_receiver 26 = .ok (.iconst 1, 1) := by decide +kernel
theorem d_Md_receiver_27 : decode b_Md_receiver 27 = .ok (.invokevirtual 223, 3) := by decide +kernel
theorem d_Md_receiver_30 : decode b_Md_receiver 30 = .ok (.ireturn, 1) := by decide +kernel
theorem d_Md_receiver_31 : decode b_Md_receiver 31 = .ok (.iload_n 2, 1) := by decide +kernel
theorem d_Md_receiver_32 : decode b_Md_receiver 32 = .ok (.bipush 7, 2) := by decide +kernel
theorem d_Md_receiver_34 : decode b_Md_receiver 34 = .ok (.if_icmp .ge 15, 3) := by decide +kernel
theorem d_Md_receiver_37 : decode b_Md_receiver 37 = .ok (.aload_n 0, 1) := by decide +kernel
theorem d_Md_receiver_38 : decode b_Md_receiver 38 = .ok (.getfield 137, 3) := by decide +kernel
theorem d_Md_receiver_41 : decode b_Md_receiver 41 = .ok (.bipush 8, 2) := by decide +kernel
theorem d_Md_receiver_43 : decode b_Md_receiver 43 = .ok (.iload_n 1, 1) := by decide +kernel
theorem d_Md_receiver_44 : decode b_Md_receiver 44 = .ok (.imul, 1) := by decide +kernel
theorem d_Md_receiver_45 : decode b_Md_receiver 45 = .ok (.iload_n 2, 1) := by decide +kernel
theorem d_Md_receiver_46 : decode b_Md_receiver 46 = .ok (.iadd, 1) := by decide +kernel
theorem d_Md_receiver_47 : decode b_Md_receiver 47 = .ok (.iaload, 1) := by decide +kernel
theorem d_Md_receiver_48 : decode b_Md_receiver 48 = .ok (.ireturn, 1) := by decide +kernel
theorem d_Md_receiver_49 : decode b_Md_receiver 49 = .ok (.iload_n 2, 1) := by decide +kernel
theorem d_Md_receiver_50 : decode b_Md_receiver 50 = .ok (.bipush 9, 2) := by decide +kernel
theorem d_Md_receiver_52 : decode b_Md_receiver 52 = .ok (.if_icmp .ge 25, 3) := by decide +kernel
theorem d_Md_receiver_55 : decode b_Md_receiver 55 = .ok (.iload_n 2, 1) := by decide +kernel
theorem d_Md_receiver_56 : decode b_Md_receiver 56 = .ok (.bipush 7, 2) := by decide +kernel
theorem d_Md_receiver_58 : decode b_Md_receiver 58 = .ok (.if_icmp .ne 12, 3) := by decide +kernel
theorem d_Md_receiver_61 : decode b_Md_receiver 61 = .ok (.aload_n 0, 1) := by decide +kernel
theorem d_Md_receiver_62 : decode b_Md_receiver 62 = .ok (.getfield 149, 3) := by decide +kernel
theorem d_Md_receiver_65 : decode b_Md_receiver 65 = .ok (.iload_n 1, 1) := by decide +kernel
theorem d_Md_receiver_66 : decode b_Md_receiver 66 = .ok (.iaload, 1) := by decide +kernel
theorem d_Md_receiver_67 : decode b_Md_receiver 67 = .ok (.goto 9, 3) := by decide +kernel
theorem d_Md_receiver_70 : decode b_Md_receiver 70 = .ok (.aload_n 0, 1) := by decide +kernel
theorem d_Md_receiver_71 : decode b_Md_receiver 71 = .ok (.getfield 140, 3) := by decide +kernel
theorem d_Md_receiver_74 : decode b_Md_receiver 74 = .ok (.iload_n 1, 1) := by decide +kernel
theorem d_Md_receiver_75 : decode b_Md_receiver 75 = .ok (.iaload, 1) := by decide +kernel
theorem d_Md_receiver_76 : decode b_Md_receiver 76 = .ok (.ireturn, 1) := by decide +kernel
theorem d_Md_receiver_77 : decode b_Md_receiver 77 = .ok (.iconst (-1), 1) := by decide +kernel
theorem d_Md_receiver_78 : decode b_Md_receiver 78 = .ok (.istore_n 3, 1) := by decide +kernel
theorem d_Md_receiver_79 : decode b_Md_receiver 79 = .ok (.iconst 0, 1) := by decide +kernel
theorem d_Md_receiver_80 : decode b_Md_receiver 80 = .ok (.istore 4, 2) := by decide +kernel
theorem d_Md_receiver_82 : decode b_Md_receiver 82 = .ok (.iload 4, 2) := by decide +kernel
theorem d_Md_receiver_84 : decode b_Md_receiver 84 = .ok (.bipush 8, 2) := by decide +kernel
theorem d_Md_receiver_86 : decode b_Md_receiver 86 = .ok (.if_icmp .ge 57, 3) := by decide +kernel
theorem d_Md_receiver_89 : decode b_Md_receiver 89 = .ok (.aload_n 0, 1) := by decide +kernel
theorem d_Md_receiver_90 : decode b_Md_receiver 90 = .ok (.getfield 124, 3) := by decide +kernel
theorem d_Md_receiver_93 : decode b_Md_receiver 93 = .ok (.bipush 8, 2) := by decide +kernel
theorem d_Md_receiver_95 : decode b_Md_receiver 95 = .ok (.iload_n 1, 1) := by decide +kernel
theorem d_Md_receiver_96 : decode b_Md_receiver 96 = .ok (.imul, 1) := by decide +kernel
theorem d_Md_receiver_97 : decode b_Md_receiver 97 = .ok (.iload 4, 2) := by decide +kernel
theorem d_Md_receiver_99 : decode b_Md_receiver 99 = .ok (.iadd, 1) := by decide +kernel
theorem d_Md_receiver_100 : decode b_Md_receiver 100 = .ok (.baload, 1) := by decide +kernel
theorem d_Md_receiver_101 : decode b_Md_receiver 101 = .ok (.ifCond .eq 34, 3) := by decide +kernel
theorem d_Md_receiver_104 : decode b_Md_receiver 104 = .ok (.aload_n 0, 1) := by decide +kernel
theorem d_Md_receiver_105 : decode b_Md_receiver 105 = .ok (.getfield 131, 3) := by decide +kernel
theorem d_Md_receiver_108 : decode b_Md_receiver 108 = .ok (.bipush 8, 2) := by decide +kernel
theorem d_Md_receiver_110 : decode b_Md_receiver 110 = .ok (.iload_n 1, 1) := by decide +kernel
theorem d_Md_receiver_111 : decode b_Md_receiver 111 = .ok (.imul, 1) := by decide +kernel
theorem d_Md_receiver_112 : decode b_Md_receiver 112 = .ok (.iload 4, 2) := by decide +kernel
theorem d_Md_receiver_114 : decode b_Md_receiver 114 = .ok (.iadd, 1) := by decide +kernel
theorem d_Md_receiver_115 : decode b_Md_receiver 115 = .ok (.iaload, 1) := by decide +kernel
theorem d_Md_receiver_116 : decode b_Md_receiver 116 = .ok (.iload_n 3, 1) := by decide +kernel
theorem d_Md_receiver_117 : decode b_Md_receiver 117 = .ok (.if_icmp .le 18, 3) := by decide +kernel
theorem d_Md_receiver_120 : decode b_Md_receiver 120 = .ok (.aload_n 0, 1) := by decide +kernel
theorem d_Md_receiver_121 : decode b_Md_receiver 121 = .ok (.getfield 131, 3) := by decide +kernel
theorem d_Md_receiver_124 : decode b_Md_receiver 124 = .ok (.bipush 8, 2) := by decide +kernel
theorem d_Md_receiver_126 : decode b_Md_receiver 126 = .ok (.iload_n 1, 1) := by decide +kernel
theorem d_Md_receiver_127 : decode b_Md_receiver 127 = .ok (.imul, 1) := by decide +kernel
theorem d_Md_receiver_128 : decode b_Md_receiver 128 = .ok (.iload 4, 2) := by decide +kernel
theorem d_Md_receiver_130 : decode b_Md_receiver 130 = .ok (.iadd, 1) := by decide +kernel
theorem d_Md_receiver_131 : decode b_Md_receiver 131 = .ok (.iaload, 1) := by decide +kernel
theorem d_Md_receiver_132 : decode b_Md_receiver 132 = .ok (.goto 4, 3) := by decide +kernel
theorem d_Md_receiver_135 : decode b_Md_receiver 135 = .ok (.iload_n 3, 1) := by decide +kernel
theorem d_Md_receiver_136 : decode b_Md_receiver 136 = .ok (.istore_n 3, 1) := by decide +kernel
theorem d_Md_receiver_137 : decode b_Md_receiver 137 = .ok (.iinc 4 1, 3) := by decide +kernel
theorem d_Md_receiver_140 : decode b_Md_receiver 140 = .ok (.goto (-58), 3) := by decide +kernel
theorem d_Md_receiver_143 : decode b_Md_receiver 143 = .ok (.iload_n 3, 1) := by decide +kernel
theorem d_Md_receiver_144 : decode b_Md_receiver 144 = .ok (.ireturn, 1) := by decide +kernel
theorem d_Md_isKept_0 : decode b_Md_isKept 0 = .ok (.iload_n 1, 1) := by decide +kernel
theorem d_Md_isKept_1 : decode b_Md_isKept 1 = .ok (.iconst 0, 1) := by decide +kernel
theorem d_Md_isKept_2 : decode b_Md_isKept 2 = .ok (.bipush 7, 2) := by decide +kernel
theorem d_Md_isKept_4 : decode b_Md_isKept 4 = .ok (.invokestatic 231, 3) := by decide +kernel
theorem d_Md_isKept_7 : decode b_Md_isKept 7 = .ok (.ifCond .eq 39, 3) := by decide +kernel
theorem d_Md_isKept_10 : decode b_Md_isKept 10 = .ok (.iload_n 2, 1) := by decide +kernel
theorem d_Md_isKept_11 : decode b_Md_isKept 11 = .ok (.iconst 0, 1) := by decide +kernel
theorem d_Md_isKept_12 : decode b_Md_isKept 12 = .ok (.aload_n 0, 1) := by decide +kernel
theorem d_Md_isKept_13 : decode b_Md_isKept 13 = .ok (.getfield 149, 3) := by decide +kernel
theorem d_Md_isKept_16 : decode b_Md_isKept 16 = .ok (.iload_n 1, 1) := by decide +kernel
theorem d_Md_isKept_17 : decode b_Md_isKept 17 = .ok (.iaload, 1) := by decide +kernel
theorem d_Md_isKept_18 : decode b_Md_isKept 18 = .ok (.bipush 100, 2) := by decide +kernel
theorem d_Md_isKept_20 : decode b_Md_isKept 20 = .ok (.if_icmp .ge 12, 3) := by decide +kernel
theorem d_Md_isKept_23 : decode b_Md_isKept 23 = .ok (.aload_n 0, 1) := by decide +kernel
theorem d_Md_isKept_24 : decode b_Md_isKept 24 = .ok (.getfield 149, 3) := by decide +kernel
theorem d_Md_isKept_27 : decode b_Md_isKept 27 = .ok (.iload_n 1, 1) := by decide +kernel
theorem d_Md_isKept_28 : decode b_Md_isKept 28 = .ok (.iaload, 1) := by decide +kernel
theorem d_Md_isKept_29 : decode b_Md_isKept 29 = .ok (.goto 5, 3) := by decide +kernel
theorem d_Md_isKept_32 : decode b_Md_isKept 32 = .ok (.bipush 100, 2) := by decide +kernel
theorem d_Md_isKept_34 : decode b_Md_isKept 34 = .ok (.iconst 1, 1) := by decide +kernel
theorem d_Md_isKept_35 : decode b_Md_isKept 35 = .ok (.isub, 1) := by decide +kernel
theorem d_Md_isKept_36 : decode b_Md_isKept 36 = .ok (.invokestatic 231, 3) := by decide +kernel
theorem d_Md_isKept_39 : decode b_Md_isKept 39 = .ok (.ifCond .eq 7, 3) := by decide +kernel
theorem d_Md_isKept_42 : decode b_Md_isKept 42 = .ok (.iconst 1, 1) := by decide +kernel
theorem d_Md_isKept_43 : decode b_Md_isKept 43 = .ok (.goto 4, 3) := by decide +kernel
theorem d_Md_isKept_46 : decode b_Md_isKept 46 = .ok (.iconst 0, 1) := by decide +kernel
theorem d_Md_isKept_47 : decode b_Md_isKept 47 = .ok (.ireturn, 1) := by decide +kernel
theorem d_Md_released_0 : decode b_Md_released 0 = .ok (.aload_n 0, 1) := by decide +kernel
theorem d_Md_released_1 : decode b_Md_released 1 = .ok (.iconst 0, 1) := by decide +kernel
theorem d_Md_released_2 : decode b_Md_released 2 = .ok (.putfield 189, 3) := by decide +kernel
theorem d_Md_released_5 : decode b_Md_released 5 = .ok (.aload_n 0, 1) := by decide +kernel
theorem d_Md_released_6 : decode b_Md_released 6 = .ok (.iload_n 1, 1) := by decide +kernel
theorem d_Md_released_7 : decode b_Md_released 7 = .ok (.iload_n 2, 1) := by decide +kernel
theorem d_Md_released_8 : decode b_Md_released 8 = .ok (.invokevirtual 299, 3) := by decide +kernel
theorem d_Md_released_11 : decode b_Md_released 11 = .ok (.ifCond .eq 12, 3) := by decide +kernel
theorem d_Md_released_14 : decode b_Md_released 14 = .ok (.iload_n 3, 1) := by decide +kernel
theorem d_Md_released_15 : decode b_Md_released 15 = .ok (.iconst 0, 1) := by decide +kernel
theorem d_Md_released_16 : decode b_Md_released 16 = .ok (.iconst 2, 1) := by decide +kernel
theorem d_Md_released_17 : decode b_Md_released 17 = .ok (.invokestatic 231, 3) := by decide +kernel
theorem d_Md_released_20 : decode b_Md_released 20 = .ok (.ifCond .ne 9, 3) := by decide +kernel
theorem d_Md_released_23 : decode b_Md_released 23 = .ok (.aload_n 0, 1) := by decide +kernel
theorem d_Md_released_24 : decode b_Md_released 24 = .ok (.iconst 1, 1) := by decide +kernel
theorem d_Md_released_25 : decode b_Md_released 25 = .ok (.invokevirtual 223, 3) := by decide +kernel
theorem d_Md_released_28 : decode b_Md_released 28 = .ok (.ireturn, 1) := by decide +kernel
theorem d_Md_released_29 : decode b_Md_released 29 = .ok (.bipush 68, 2) := by decide +kernel
theorem d_Md_released_31 : decode b_Md_released 31 = .ok (.bipush 100, 2) := by decide +kernel
theorem d_Md_released_33 : decode b_Md_released 33 = .ok (.iload_n 1, 1) := by decide +kernel
theorem d_Md_released_34 : decode b_Md_released 34 = .ok (.imul, 1) := by decide +kernel
theorem d_Md_released_35 : decode b_Md_released 35 = .ok (.iload_n 2, 1) := by decide +kernel
theorem d_Md_released_36 : decode b_Md_released 36 = .ok (.iadd, 1) := by decide +kernel
theorem d_Md_released_37 : decode b_Md_released 37 = .ok (.imul, 1) := by decide +kernel
theorem d_Md_released_38 : decode b_Md_released 38 = .ok (.istore 4, 2) := by decide +kernel
theorem d_Md_released_40 : decode b_Md_released 40 = .ok (.iload_n 3, 1) := by decide +kernel
theorem d_Md_released_41 : decode b_Md_released 41 = .ok (.ifCond .ne 18, 3) := by decide +kernel
theorem d_Md_released_44 : decode b_Md_released 44 = .ok (.aload_n 0, 1) := by decide +kernel
theorem d_Md_released_45 : decode b_Md_released 45 = .ok (.getfield 152, 3) := by decide +kernel
theorem d_Md_released_48 : decode b_Md_released 48 = .ok (.sipush 1024, 3) := by decide +kernel
theorem d_Md_released_51 : decode b_Md_released 51 = .ok (.iload_n 1, 1) := by decide +kernel
theorem d_Md_released_52 : decode b_Md_released 52 = .ok (.imul, 1) := by decide +kernel
theorem d_Md_released_53 : decode b_Md_released 53 = .ok (.iload_n 2, 1) := by decide +kernel
theorem d_Md_released_54 : decode b_Md_released 54 = .ok (.iadd, 1) := by decide +kernel
theorem d_Md_released_55 : decode b_Md_released 55 = .ok (.iaload, 1) := by decide +kernel
theorem d_Md_released_56 : decode b_Md_released 56 = .ok (.goto 29, 3) := by decide +kernel
theorem d_Md_released_59 : decode b_Md_released 59 = .ok (.iload_n 3, 1) := by decide +kernel
theorem d_Md_released_60 : decode b_Md_released 60 = .ok (.iconst 1, 1) := by decide +kernel
theorem d_Md_released_61 : decode b_Md_released 61 = .ok (.if_icmp .ne 15, 3) := by decide +kernel
theorem d_Md_released_64 : decode b_Md_released 64 = .ok (.aload_n 0, 1) := by decide +kernel
theorem d_Md_released_65 : decode b_Md_released 65 = .ok (.getfield 163, 3) := by decide +kernel
theorem d_Md_released_68 : decode b_Md_released 68 = .ok (.iload 4, 2) := by decide +kernel
theorem d_Md_released_70 : decode b_Md_released 70 = .ok (.iconst 4, 1) := by decide +kernel
theorem d_Md_released_71 : decode b_Md_released 71 = .ok (.iadd, 1) := by decide +kernel
theorem d_Md_released_72 : decode b_Md_released 72 = .ok (.iaload, 1) := by decide +kernel
theorem d_Md_released_73 : decode b_Md_released 73 = .ok (.goto 12, 3) := by decide +kernel
theorem d_Md_released_76 : decode b_Md_released 76 = .ok (.aload_n 0, 1) := by decide +kernel
theorem d_Md_released_77 : decode b_Md_released 77 = .ok (.getfield 163, 3) := by decide +kernel
theorem d_Md_released_80 : decode b_Md_released 80 = .ok (.iload 4, 2) := by decide +kernel
theorem d_Md_released_82 : decode b_Md_released 82 = .ok (.iconst 5, 1) := by decide +kernel
theorem d_Md_released_83 : decode b_Md_released 83 = .ok (.iadd, 1) := by decide +kernel
theorem d_Md_released_84 : decode b_Md_released 84 = .ok (.iaload, 1) := by decide +kernel
theorem d_Md_released_85 : decode b_Md_released 85 = .ok (.ireturn, 1) := by decide +kernel
theorem d_Md_releasedByte_0 : decode b_Md_releasedByte 0 = .ok (.aload_n 0, 1) := by decide +kernel
theorem d_Md_releasedByte_1 : decode b_Md_releasedByte 1 = .ok (.iconst 0, 1) := by decide +kernel
theorem d_Md_releasedByte_2 : decode b_Md_releasedByte 2 = .ok (.putfield 189, 3) := by decide +kernel
theorem d_Md_releasedByte_5 : decode b_Md_releasedByte 5 = .ok (.aload_n 0, 1) := by decide +kernel
theorem d_Md_releasedByte_6 : decode b_Md_releasedByte 6 = .ok (.iload_n 1, 1) := by decide +kernel
theorem d_Md_releasedByte_7 : decode b_Md_releasedByte 7 = .ok (.iload_n 2, 1) := by decide +kernel
theorem d_Md_releasedByte_8 : decode b_Md_releasedByte 8 = .ok (.invokevirtual 299, 3) := by decide +kernel
theorem d_Md_releasedByte_11 : decode b_Md_releasedByte 11 = .ok (.ifCond .eq 29, 3) := by decide +kernel
theorem d_Md_releasedByte_14 : decode b_Md_releasedByte 14 = .ok (.iload_n 3, 1) := by decide +kernel
theorem d_Md_releasedByte_15 : decode b_Md_releasedByte 15 = .ok (.iconst 0, 1) := by decide +kernel
theorem d_Md_releasedByte_16 : decode b_Md_releasedByte 16 = .ok (.aload_n 0, 1) := by decide +kernel
theorem d_Md_releasedByte_17 : decode b_Md_releasedByte 17 = .ok (.getfield 163, 3) := by decide +kernel
theorem d_Md_releasedByte_20 : decode b_Md_releasedByte 20 = .ok (.bipush 68, 2) := by decide +kernel
theorem d_Md_releasedByte_22 : decode b_Md_releasedByte 22 = .ok (.bipush 100, 2) := by decide +kernel
theorem d_Md_releasedByte_24 : decode b_Md_releasedByte 24 = .ok (.iload_n 1, 1) := by decide +kernel
theorem d_Md_releasedByte_25 : decode b_Md_releasedByte 25 = .ok (.imul, 1) := by decide +kernel
theorem d_Md_releasedByte_26 : decode b_Md_releasedByte 26 = .ok (.iload_n 2, 1) := by decide +kernel
theorem d_Md_releasedByte_27 : decode b_Md_releasedByte 27 = .ok (.iadd, 1) := by decide +kernel
theorem d_Md_releasedByte_28 : decode b_Md_releasedByte 28 = .ok (.imul, 1) := by decide +kernel
theorem d_Md_releasedByte_29 : decode b_Md_releasedByte 29 = .ok (.iconst 5, 1) := by decide +kernel
theorem d_Md_releasedByte_30 : decode b_Md_releasedByte 30 = .ok (.iadd, 1) := by decide +kernel
theorem d_Md_releasedByte_31 : decode b_Md_releasedByte 31 = .ok (.iaload, 1) := by decide +kernel
theorem d_Md_releasedByte_32 : decode b_Md_releasedByte 32 = .ok (.iconst 1, 1) := by decide +kernel
theorem d_Md_releasedByte_33 : decode b_Md_releasedByte 33 = .ok (.isub, 1) := by decide +kernel
theorem d_Md_releasedByte_34 : decode b_Md_releasedByte 34 = .ok (.invokestatic 231, 3) := by decide +kernel
theorem d_Md_releasedByte_37 : decode b_Md_releasedByte 37 = .ok (.ifCond .ne 9, 3) := by decide +kernel
theorem d_Md_releasedByte_40 : decode b_Md_releasedByte 40 = .ok (.aload_n 0, 1) := by decide +kernel
theorem d_Md_releasedByte_41 : decode b_Md_releasedByte 41 = .ok (.iconst 1, 1) := by decide +kernel
theorem d_Md_releasedByte_42 : decode b_Md_releasedByte 42 = .ok (.invokevirtual 223, 3) := by decide +kernel
theorem d_Md_releasedByte_45 : decode b_Md_releasedByte 45 = .ok (.ireturn, 1) := by decide +kernel
theorem d_Md_releasedByte_46 : decode b_Md_releasedByte 46 = .ok (.aload_n 0, 1) := by decide +kernel
theorem d_Md_releasedByte_47 : decode b_Md_releasedByte 47 = .ok (.getfield 163, 3) := by decide +kernel
theorem d_Md_releasedByte_50 : decode b_Md_releasedByte 50 = .ok (.bipush 68, 2) := by decide +kernel
theorem d_Md_releasedByte_52 : decode b_Md_releasedByte 52 = .ok (.bipush 100, 2) := by decide +kernel
theorem d_Md_releasedByte_54 : decode b_Md_releasedByte 54 = .ok (.iload_n 1, 1) := by decide +kernel
theorem d_Md_releasedByte_55 : decode b_Md_releasedByte 55 = .ok (.imul, 1) := by decide +kernel
theorem d_Md_releasedByte_56 : decode b_Md_releasedByte 56 = .ok (.iload_n 2, 1) := by decide +kernel
theorem d_Md_releasedByte_57 : decode b_Md_releasedByte 57 = .ok (.iadd, 1) := by decide +kernel
theorem d_Md_releasedByte_58 : decode b_Md_releasedByte 58 = .ok (.imul, 1) := by decide +kernel
theorem d_Md_releasedByte_59 : decode b_Md_releasedByte 59 = .ok (.bipush 6, 2) := by decide +kernel
theorem d_Md_releasedByte_61 : decode b_Md_releasedByte 61 = .ok (.iadd, 1) := by decide +kernel
theorem d_Md_releasedByte_62 : decode b_Md_releasedByte 62 = .ok (.iload_n 3, 1) := by decide +kernel
theorem d_Md_releasedByte_63 : decode b_Md_releasedByte 63 = .ok (.iadd, 1) := by decide +kernel
theorem d_Md_releasedByte_64 : decode b_Md_releasedByte 64 = .ok (.iaload, 1) := by decide +kernel
theorem d_Md_releasedByte_65 : decode b_Md_releasedByte 65 = .ok (.ireturn, 1) := by decide +kernel
theorem d_Md_count_0 : decode b_Md_count 0 = .ok (.aload_n 0, 1) := by decide +kernel
theorem d_Md_count_1 : decode b_Md_count 1 = .ok (.iconst 0, 1) := by decide +kernel
theorem d_Md_count_2 : decode b_Md_count 2 = .ok (.putfield 189, 3) := by decide +kernel
theorem d_Md_count_5 : decode b_Md_count 5 = .ok (.iload_n 1, 1) := by decide +kernel
theorem d_Md_count_6 : decode b_Md_count 6 = .ok (.iconst 0, 1) := by decide +kernel
theorem d_Md_count_7 : decode b_Md_count 7 = .ok (.iconst 3, 1) := by decide +kernel
theorem d_Md_count_8 : decode b_Md_count 8 = .ok (.invokestatic 231, 3) := by decide +kernel
theorem d_Md_count_11 : decode b_Md_count 11 = .ok (.ifCond .ne 5, 3) := by decide +kernel
theorem d_Md_count_14 : decode b_Md_count 14 = .ok (.iconst (-1), 1) := by decide +kernel
theorem d_Md_count_15 : decode b_Md_count 15 = .ok (.ireturn, 1) := by decide +kernel
theorem d_Md_count_16 : decode b_Md_count 16 = .ok (.iload_n 1, 1) := by decide +kernel
theorem d_Md_count_17 : decode b_Md_count 17 = .ok (.ifCond .ne 10, 3) := by decide +kernel
theorem d_Md_count_20 : decode b_Md_count 20 = .ok (.aload_n 0, 1) := by decide +kernel
theorem d_Md_count_21 : decode b_Md_count 21 = .ok (.getfield 217, 3) := by decide +kernel
theorem d_Md_count_24 : decode b_Md_count 24 = .ok (.goto 31, 3) := by decide +kernel
theorem d_Md_count_27 : decode b_Md_count 27 = .ok (.iload_n 1, 1) := by decide +kernel
theorem d_Md_count_28 : decode b_Md_count 28 = .ok (.iconst 1, 1) := by decide +kernel
theorem d_Md_count_29 : decode b_Md_count 29 = .ok (.if_icmp .ne 10, 3) := by decide +kernel
theorem d_Md_count_32 : decode b_Md_count 32 = .ok (.aload_n 0, 1) := by decide +kernel
theorem d_Md_count_33 : decode b_Md_count 33 = .ok (.invokevirtual 235, 3) := by decide +kernel
theorem d_Md_count_36 : decode b_Md_count 36 = .ok (.goto 19, 3) := by decide +kernel
theorem d_Md_count_39 : decode b_Md_count 39 = .ok (.iload_n 1, 1) := by decide +kernel
theorem d_Md_count_40 : decode b_Md_count 40 = .ok (.iconst 2, 1) := by decide +kernel
theorem d_Md_count_41 : decode b_Md_count 41 = .ok (.if_icmp .ne 10, 3) := by decide +kernel
theorem d_Md_count_44 : decode b_Md_count 44 = .ok (.aload_n 0, 1) := by decide +kernel
theorem d_Md_count_45 : decode b_Md_count 45 = .ok (.getfield 220, 3) := by decide +kernel
theorem d_Md_count_48 : decode b_Md_count 48 = .ok (.goto 7, 3) := by decide +kernel
theorem d_Md_count_51 : decode b_Md_count 51 = .ok (.aload_n 0, 1) := by decide +kernel
theorem d_Md_count_52 : decode b_Md_count 52 = .ok (.getfield 249, 3) := by decide +kernel
theorem d_Md_count_55 : decode b_Md_count 55 = .ok (.ireturn, 1) := by decide +kernel
