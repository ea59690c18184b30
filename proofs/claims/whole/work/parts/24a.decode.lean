theorem d_Md_init_0 : decode b_Md_init 0 = .ok (.aload_n 0, 1) := by decide +kernel
theorem d_Md_init_1 : decode b_Md_init 1 = .ok (.invokespecial 1, 3) := by decide +kernel
theorem d_Md_init_4 : decode b_Md_init 4 = .ok (.aload_n 0, 1) := by decide +kernel
theorem d_Md_init_5 : decode b_Md_init 5 = .ok (.bipush 64, 2) := by decide +kernel
theorem d_Md_init_7 : decode b_Md_init 7 = .ok (.newarray .int, 2) := by decide +kernel
theorem d_Md_init_9 : decode b_Md_init 9 = .ok (.dup, 1) := by decide +kernel
theorem d_Md_init_10 : decode b_Md_init 10 = .ok (.iconst 0, 1) := by decide +kernel
theorem d_Md_init_11 : decode b_Md_init 11 = .ok (.ldc 7, 2) := by decide +kernel
theorem d_Md_init_13 : decode b_Md_init 13 = .ok (.iastore, 1) := by decide +kernel
theorem d_Md_init_14 : decode b_Md_init 14 = .ok (.dup, 1) := by decide +kernel
theorem d_Md_init_15 : decode b_Md_init 15 = .ok (.iconst 1, 1) := by decide +kernel
theorem d_Md_init_16 : decode b_Md_init 16 = .ok (.ldc 8, 2) := by decide +kernel
theorem d_Md_init_18 : decode b_Md_init 18 = .ok (.iastore, 1) := by decide +kernel
theorem d_Md_init_19 : decode b_Md_init 19 = .ok (.dup, 1) := by decide +kernel
theorem d_Md_init_20 : decode b_Md_init 20 = .ok (.iconst 2, 1) := by decide +kernel
theorem d_Md_init_21 : decode b_Md_init 21 = .ok (.ldc 9, 2) := by decide +kernel
theorem d_Md_init_23 : decode b_Md_init 23 = .ok (.iastore, 1) := by decide +kernel
theorem d_Md_init_24 : decode b_Md_init 24 = .ok (.dup, 1) := by decide +kernel
theorem d_Md_init_25 : decode b_Md_init 25 = .ok (.iconst 3, 1) := by decide +kernel
theorem d_Md_init_26 : decode b_Md_init 26 = .ok (.ldc 10, 2) := by decide +kernel
theorem d_Md_init_28 : decode b_Md_init 28 = .ok (.iastore, 1) := by decide +kernel
theorem d_Md_init_29 : decode b_Md_init 29 = .ok (.dup, 1) := by decide +kernel
theorem d_Md_init_30 : decode b_Md_init 30 = .ok (.iconst 4, 1) := by decide +kernel
theorem d_Md_init_31 : decode b_Md_init 31 = .ok (.ldc 11, 2) := by decide +kernel
theorem d_Md_init_33 : decode b_Md_init 33 = .ok (.iastore, 1) := by decide +kernel
theorem d_Md_init_34 : decode b_Md_init 34 = .ok (.dup, 1) := by decide +kernel
theorem d_Md_init_35 : decode b_Md_init 35 = .ok (.iconst 5, 1) := by decide +kernel
theorem d_Md_init_36 : decode b_Md_init 36 = .ok (.ldc 12, 2) := by decide +kernel
theorem d_Md_init_38 : decode b_Md_init 38 = .ok (.iastore, 1) := by decide +kernel
theorem d_Md_init_39 : decode b_Md_init 39 = .ok (.dup, 1) := by decide +kernel
theorem d_Md_init_40 : decode b_Md_init 40 = .ok (.bipush 6, 2) := by decide +kernel
theorem d_Md_init_42 : decode b_Md_init 42 = .ok (.ldc 13, 2) := by decide +kernel
theorem d_Md_init_44 : decode b_Md_init 44 = .ok (.iastore, 1) := by decide +kernel
theorem d_Md_init_45 : decode b_Md_init 45 = .ok (.dup, 1) := by decide +kernel
theorem d_Md_init_46 : decode b_Md_init 46 = .ok (.bipush 7, 2) := by decide +kernel
theorem d_Md_init_48 : decode b_Md_init 48 = .ok (.ldc 14, 2) := by decide +kernel
theorem d_Md_init_50 : decode b_Md_init 50 = .ok (.iastore, 1) := by decide +kernel
theorem d_Md_init_51 : decode b_Md_init 51 = .ok (.dup, 1) := by decide +kernel
theorem d_Md_init_52 : decode b_Md_init 52 = .ok (.bipush 8, 2) := by decide +kernel
theorem d_Md_init_54 : decode b_Md_init 54 = .ok (.ldc 15, 2) := by decide +kernel
theorem d_Md_init_56 : decode b_Md_init 56 = .ok (.iastore, 1) := by decide +kernel
theorem d_Md_init_57 : decode b_Md_init 57 = .ok (.dup, 1) := by decide +kernel
theorem d_Md_init_58 : decode b_Md_init 58 = .ok (.bipush 9, 2) := by decide +kernel
theorem d_Md_init_60 : decode b_Md_init 60 = .ok (.ldc 16, 2) := by decide +kernel
theorem d_Md_init_62 : decode b_Md_init 62 = .ok (.iastore, 1) := by decide +kernel
theorem d_Md_init_63 : decode b_Md_init 63 = .ok (.dup, 1) := by decide +kernel
theorem d_Md_init_64 : decode b_Md_init 64 = .ok (.bipush 10, 2) := by decide +kernel
theorem d_Md_init_66 : decode b_Md_init 66 = .ok (.ldc 17, 2) := by decide +kernel
theorem d_Md_init_68 : decode b_Md_init 68 = .ok (.iastore, 1) := by decide +kernel
theorem d_Md_init_69 : decode b_Md_init 69 = .ok (.dup, 1) := by decide +kernel
theorem d_Md_init_70 : decode b_Md_init 70 = .ok (.bipush 11, 2) := by decide +kernel
theorem d_Md_init_72 : decode b_Md_init 72 = .ok (.ldc 18, 2) := by decide +kernel
theorem d_Md_init_74 : decode b_Md_init 74 = .ok (.iastore, 1) := by decide +kernel
theorem d_Md_init_75 : decode b_Md_init 75 = .ok (.dup, 1) := by decide +kernel
theorem d_Md_init_76 : decode b_Md_init 76 = .ok (.bipush 12, 2) := by decide +kernel
theorem d_Md_init_78 : decode b_Md_init 78 = .ok (.ldc 19, 2) := by decide +kernel
theorem d_Md_init_80 : decode b_Md_init 80 = .ok (.iastore, 1) := by decide +kernel
theorem d_Md_init_81 : decode b_Md_init 81 = .ok (.dup, 1) := by decide +kernel
theorem d_Md_init_82 : decode b_Md_init 82 = .ok (.bipush 13, 2) := by decide +kernel
theorem d_Md_init_84 : decode b_Md_init 84 = .ok (.ldc 20, 2) := by decide +kernel
theorem d_Md_init_86 : decode b_Md_init 86 = .ok (.iastore, 1) := by decide +kernel
theorem d_Md_init_87 : decode b_Md_init 87 = .ok (.dup, 1) := by decide +kernel
theorem d_Md_init_88 : decode b_Md_init 88 = .ok (.bipush 14, 2) := by decide +kernel
theorem d_Md_init_90 : decode b_Md_init 90 = .ok (.ldc 21, 2) := by decide +kernel
theorem d_Md_init_92 : decode b_Md_init 92 = .ok (.iastore, 1) := by decide +kernel
theorem d_Md_init_93 : decode b_Md_init 93 = .ok (.dup, 1) := by decide +kernel
theorem d_Md_init_94 : decode b_Md_init 94 = .ok (.bipush 15, 2) := by decide +kernel
theorem d_Md_init_96 : decode b_Md_init 96 = .ok (.ldc 22, 2) := by decide +kernel
theorem d_Md_init_98 : decode b_Md_init 98 = .ok (.iastore, 1) := by decide +kernel
theorem d_Md_init_99 : decode b_Md_init 99 = .ok (.dup, 1) := by decide +kernel
theorem d_Md_init_100 : decode b_Md_init 100 = .ok (.bipush 16, 2) := by decide +kernel
theorem d_Md_init_102 : decode b_Md_init 102 = .ok (.ldc 23, 2) := by decide +kernel
theorem d_Md_init_104 : decode b_Md_init 104 = .ok (.iastore, 1) := by decide +kernel
theorem d_Md_init_105 : decode b_Md_init 105 = .ok (.dup, 1) := by decide +kernel
theorem d_Md_init_106 : decode b_Md_init 106 = .ok (.bipush 17, 2) := by decide +kernel
theorem d_Md_init_108 : decode b_Md_init 108 = .ok (.ldc 24, 2) := by decide +kernel
theorem d_Md_init_110 : decode b_Md_init 110 = .ok (.iastore, 1) := by decide +kernel
theorem d_Md_init_111 : decode b_Md_init 111 = .ok (.dup, 1) := by decide +kernel
theorem d_Md_init_112 : decode b_Md_init 112 = .ok (.bipush 18, 2) := by decide +kernel
theorem d_Md_init_114 : decode b_Md_init 114 = .ok (.ldc 25, 2) := by decide +kernel
theorem d_Md_init_116 : decode b_Md_init 116 = .ok (.iastore, 1) := by decide +kernel
theorem d_Md_init_117 : decode b_Md_init 117 = .ok (.dup, 1) := by decide +kernel
theorem d_Md_init_118 : decode b_Md_init 118 = .ok (.bipush 19, 2) := by decide +kernel
theorem d_Md_init_120 : decode b_Md_init 120 = .ok (.ldc 26, 2) := by decide +kernel
theorem d_Md_init_122 : decode b_Md_init 122 = .ok (.iastore, 1) := by decide +kernel
theorem d_Md_init_123 : decode b_Md_init 123 = .ok (.dup, 1) := by decide +kernel
theorem d_Md_init_124 : decode b_Md_init 124 = .ok (.bipush 20, 2) := by decide +kernel
theorem d_Md_init_126 : decode b_Md_init 126 = .ok (.ldc 27, 2) := by decide +kernel
theorem d_Md_init_128 : decode b_Md_init 128 = .ok (.iastore, 1) := by decide +kernel
theorem d_Md_init_129 : decode b_Md_init 129 = .ok (.dup, 1) := by decide +kernel
theorem d_Md_init_130 : decode b_Md_init 130 = .ok (.bipush 21, 2) := by decide +kernel
theorem d_Md_init_132 : decode b_Md_init 132 = .ok (.ldc 28, 2) := by decide +kernel
theorem d_Md_init_134 : decode b_Md_init 134 = .ok (.iastore, 1) := by decide +kernel
theorem d_Md_init_135 : decode b_Md_init 135 = .ok (.dup, 1) := by decide +kernel
theorem d_Md_init_136 : decode b_Md_init 136 = .ok (.bipush 22, 2) := by decide +kernel
theorem d_Md_init_138 : decode b_Md_init 138 = .ok (.ldc 29, 2) := by decide +kernel
theorem d_Md_init_140 : decode b_Md_init 140 = .ok (.iastore, 1) := by decide +kernel
theorem d_Md_init_141 : decode b_Md_init 141 = .ok (.dup, 1) := by decide +kernel
theorem d_Md_init_142 : decode b_Md_init 142 = .ok (.bipush 23, 2) := by decide +kernel
theorem d_Md_init_144 : decode b_Md_init 144 = .ok (.ldc 30, 2) := by decide +kernel
theorem d_Md_init_146 : decode b_Md_init 146 = .ok (.iastore, 1) := by decide +kernel
theorem d_Md_init_147 : decode b_Md_init 147 = .ok (.dup, 1) := by decide +kernel
theorem d_Md_init_148 : decode b_Md_init 148 = .ok (.bipush 24, 2) := by decide +kernel
theorem d_Md_init_150 : decode b_Md_init 150 = .ok (.ldc 31, 2) := by decide +kernel
theorem d_Md_init_152 : decode b_Md_init 152 = .ok (.iastore, 1) := by decide +kernel
theorem d_Md_init_153 : decode b_Md_init 153 = .ok (.dup, 1) := by decide +kernel
theorem d_Md_init_154 : decode b_Md_init 154 = .ok (.bipush 25, 2) := by decide +kernel
theorem d_Md_init_156 : decode b_Md_init 156 = .ok (.ldc 32, 2) := by decide +kernel
theorem d_Md_init_158 : decode b_Md_init 158 = .ok (.iastore, 1) := by decide +kernel
theorem d_Md_init_159 : decode b_Md_init 159 = .ok (.dup, 1) := by decide +kernel
theorem d_Md_init_160 : decode b_Md_init 160 = .ok (.bipush 26, 2) := by decide +kernel
theorem d_Md_init_162 : decode b_Md_init 162 = .ok (.ldc 33, 2) := by decide +kernel
theorem d_Md_init_164 : decode b_Md_init 164 = .ok (.iastore, 1) := by decide +kernel
theorem d_Md_init_165 : decode b_Md_init 165 = .ok (.dup, 1) := by decide +kernel
theorem d_Md_init_166 : decode b_Md_init 166 = .ok (.bipush 27, 2) := by decide +kernel
theorem d_Md_init_168 : decode b_Md_init 168 = .ok (.ldc 34, 2) := by decide +kernel
theorem d_Md_init_170 : decode b_Md_init 170 = .ok (.iastore, 1) := by decide +kernel
theorem d_Md_init_171 : decode b_Md_init 171 = .ok (.dup, 1) := by decide +kernel
theorem d_Md_init_172 : decode b_Md_init 172 = .ok (.bipush 28, 2) := by decide +kernel
theorem d_Md_init_174 : decode b_Md_init 174 = .ok (.ldc 35, 2) := by decide +kernel
theorem d_Md_init_176 : decode b_Md_init 176 = .ok (.iastore, 1) := by decide +kernel
theorem d_Md_init_177 : decode b_Md_init 177 = .ok (.dup, 1) := by decide +kernel
theorem d_Md_init_178 : decode b_Md_init 178 = .ok (.bipush 29, 2) := by decide +kernel
theorem d_Md_init_180 : decode b_Md_init 180 = .ok (.ldc 36, 2) := by decide +kernel
theorem d_Md_init_182 : decode b_Md_init 182 = .ok (.iastore, 1) := by decide +kernel
theorem d_Md_init_183 : decode b_Md_init 183 = .ok (.dup, 1) := by decide +kernel
theorem d_Md_init_184 : decode b_Md_init 184 = .ok (.bipush 30, 2) := by decide +kernel
theorem d_Md_init_186 : decode b_Md_init 186 = .ok (.ldc 37, 2) := by decide +kernel
theorem d_Md_init_188 : decode b_Md_init 188 = .ok (.iastore, 1) := by decide +kernel
theorem d_Md_init_189 : decode b_Md_init 189 = .ok (.dup, 1) := by decide +kernel
theorem d_Md_init_190 : decode b_Md_init 190 = .ok (.bipush 31, 2) := by decide +kernel
theorem d_Md_init_192 : decode b_Md_init 192 = .ok (.ldc 38, 2) := by decide +kernel
theorem d_Md_init_194 : decode b_Md_init 194 = .ok (.iastore, 1) := by decide +kernel
theorem d_Md_init_195 : decode b_Md_init 195 = .ok (.dup, 1) := by decide +kernel
theorem d_Md_init_196 : decode b_Md_init 196 = .ok (.bipush 32, 2) := by decide +kernel
theorem d_Md_init_198 : decode b_Md_init 198 = .ok (.ldc 39, 2) := by decide +kernel
theorem d_Md_init_200 : decode b_Md_init 200 = .ok (.iastore, 1) := by decide +kernel
theorem d_Md_init_201 : decode b_Md_init 201 = .ok (.dup, 1) := by decide +kernel
theorem d_Md_init_202 : decode b_Md_init 202 = .ok (.bipush 33, 2) := by decide +kernel
theorem d_Md_init_204 : decode b_Md_init 204 = .ok (.ldc 40, 2) := by decide +kernel
theorem d_Md_init_206 : decode b_Md_init 206 = .ok (.iastore, 1) := by decide +kernel
theorem d_Md_init_207 : decode b_Md_init 207 = .ok (.dup, 1) := by decide +kernel
theorem d_Md_init_208 : decode b_Md_init 208 = .ok (.bipush 34, 2) := by decide +kernel
theorem d_Md_init_210 : decode b_Md_init 210 = .ok (.ldc 41, 2) := by decide +kernel
theorem d_Md_init_212 : decode b_Md_init 212 = .ok (.iastore, 1) := by decide +kernel
theorem d_Md_init_213 : decode b_Md_init 213 = .ok (.dup, 1) := by decide +kernel
theorem d_Md_init_214 : decode b_Md_init 214 = .ok (.bipush 35, 2) := by decide +kernel
theorem d_Md_init_216 : decode b_Md_init 216 = .ok (.ldc 42, 2) := by decide +kernel
theorem d_Md_init_218 : decode b_Md_init 218 = .ok (.iastore, 1) := by decide +kernel
theorem d_Md_init_219 : decode b_Md_init 219 = .ok (.dup, 1) := by decide +kernel
theorem d_Md_init_220 : decode b_Md_init 220 = .ok (.bipush 36, 2) := by decide +kernel
theorem d_Md_init_222 : decode b_Md_init 222 = .ok (.ldc 43, 2) := by decide +kernel
theorem d_Md_init_224 : decode b_Md_init 224 = .ok (.iastore, 1) := by decide +kernel
theorem d_Md_init_225 : decode b_Md_init 225 = .ok (.dup, 1) := by decide +kernel
theorem d_Md_init_226 : decode b_Md_init 226 = .ok (.bipush 37, 2) := by decide +kernel
theorem d_Md_init_228 : decode b_Md_init 228 = .ok (.ldc 44, 2) := by decide +kernel
theorem d_Md_init_230 : decode b_Md_init 230 = .ok (.iastore, 1) := by decide +kernel
theorem d_Md_init_231 : decode b_Md_init 231 = .ok (.dup, 1) := by decide +kernel
theorem d_Md_init_232 : decode b_Md_init 232 = .ok (.bipush 38, 2) := by decide +kernel
theorem d_Md_init_234 : decode b_Md_init 234 = .ok (.ldc 45, 2) := by decide +kernel
theorem d_Md_init_236 : decode b_Md_init 236 = .ok (.iastore, 1) := by decide +kernel
theorem d_Md_init_237 : decode b_Md_init 237 = .ok (.dup, 1) := by decide +kernel
theorem d_Md_init_238 : decode b_Md_init 238 = .ok (.bipush 39, 2) := by decide +kernel
theorem d_Md_init_240 : decode b_Md_init 240 = .ok (.ldc 46, 2) := by decide +kernel
theorem d_Md_init_242 : decode b_Md_init 242 = .ok (.iastore, 1) := by decide +kernel
theorem d_Md_init_243 : decode b_Md_init 243 = .ok (.dup, 1) := by decide +kernel
theorem d_Md_init_244 : decode b_Md_init 244 = .ok (.bipush 40, 2) := by decide +kernel
theorem d_Md_init_246 : decode b_Md_init 246 = .ok (.ldc 47, 2) := by decide +kernel
theorem d_Md_init_248 : decode b_Md_init 248 = .ok (.iastore, 1) := by decide +kernel
theorem d_Md_init_249 : decode b_Md_init 249 = .ok (.dup, 1) := by decide +kernel
theorem d_Md_init_250 : decode b_Md_init 250 = .ok (.bipush 41, 2) := by decide +kernel
theorem d_Md_init_252 : decode b_Md_init 252 = .ok (.ldc 48, 2) := by decide +kernel
theorem d_Md_init_254 : decode b_Md_init 254 = .ok (.iastore, 1) := by decide +kernel
theorem d_Md_init_255 : decode b_Md_init 255 = .ok (.dup, 1) := by decide +kernel
theorem d_Md_init_256 : decode b_Md_init 256 = .ok (.bipush 42, 2) := by decide +kernel
theorem d_Md_init_258 : decode b_Md_init 258 = .ok (.ldc 49, 2) := by decide +kernel
theorem d_Md_init_260 : decode b_Md_init 260 = .ok (.iastore, 1) := by decide +kernel
theorem d_Md_init_261 : decode b_Md_init 261 = .ok (.dup, 1) := by decide +kernel
theorem d_Md_init_262 : decode b_Md_init 262 = .ok (.bipush 43, 2) := by decide +kernel
theorem d_Md_init_264 : decode b_Md_init 264 = .ok (.ldc 50, 2) := by decide +kernel
theorem d_Md_init_266 : decode b_Md_init 266 = .ok (.iastore, 1) := by decide +kernel
theorem d_Md_init_267 : decode b_Md_init 267 = .ok (.dup, 1) := by decide +kernel
theorem d_Md_init_268 : decode b_Md_init 268 = .ok (.bipush 44, 2) := by decide +kernel
theorem d_Md_init_270 : decode b_Md_init 270 = .ok (.ldc 51, 2) := by decide +kernel
theorem d_Md_init_272 : decode b_Md_init 272 = .ok (.iastore, 1) := by decide +kernel
theorem d_Md_init_273 : decode b_Md_init 273 = .ok (.dup, 1) := by decide +kernel
theorem d_Md_init_274 : decode b_Md_init 274 = .ok (.bipush 45, 2) := by decide +kernel
theorem d_Md_init_276 : decode b_Md_init 276 = .ok (.ldc 52, 2) := by decide +kernel
theorem d_Md_init_278 : decode b_Md_init 278 = .ok (.iastore, 1) := by decide +kernel
theorem d_Md_init_279 : decode b_Md_init 279 = .ok (.dup, 1) := by decide +kernel
theorem d_Md_init_280 : decode b_Md_init 280 = .ok (.bipush 46, 2) := by decide +kernel
theorem d_Md_init_282 : decode b_Md_init 282 = .ok (.ldc 53, 2) := by decide +kernel
theorem d_Md_init_284 : decode b_Md_init 284 = .ok (.iastore, 1) := by decide +kernel
theorem d_Md_init_285 : decode b_Md_init 285 = .ok (.dup, 1) := by decide +kernel
theorem d_Md_init_286 : decode b_Md_init 286 = .ok (.bipush 47, 2) := by decide +kernel
theorem d_Md_init_288 : decode b_Md_init 288 = .ok (.ldc 54, 2) := by decide +kernel
theorem d_Md_init_290 : decode b_Md_init 290 = .ok (.iastore, 1) := by decide +kernel
theorem d_Md_init_291 : decode b_Md_init 291 = .ok (.dup, 1) := by decide +kernel
theorem d_Md_init_292 : decode b_Md_init 292 = .ok (.bipush 48, 2) := by decide +kernel
theorem d_Md_init_294 : decode b_Md_init 294 = .ok (.ldc 55, 2) := by decide +kernel
theorem d_Md_init_296 : decode b_Md_init 296 = .ok (.iastore, 1) := by decide +kernel
theorem d_Md_init_297 : decode b_Md_init 297 = .ok (.dup, 1) := by decide +kernel
theorem d_Md_init_298 : decode b_Md_init 298 = .ok (.bipush 49, 2) := by decide +kernel
theorem d_Md_init_300 : decode b_Md_init 300 = .ok (.ldc 56, 2) := by decide +kernel
theorem d_Md_init_302 : decode b_Md_init 302 = .ok (.iastore, 1) := by decide +kernel
theorem d_Md_init_303 : decode b_Md_init 303 = .ok (.dup, 1) := by decide +kernel
theorem d_Md_init_304 : decode b_Md_init 304 = .ok (.bipush 50, 2) := by decide +kernel
theorem d_Md_init_306 : decode b_Md_init 306 = .ok (.ldc 57, 2) := by decide +kernel
theorem d_Md_init_308 : decode b_Md_init 308 = .ok (.iastore, 1) := by decide +kernel
theorem d_Md_init_309 : decode b_Md_init 309 = .ok (.dup, 1) := by decide +kernel
theorem d_Md_init_310 : decode b_Md_init 310 = .ok (.bipush 51, 2) := by decide +kernel
theorem d_Md_init_312 : decode b_Md_init 312 = .ok (.ldc 58, 2) := by decide +kernel
theorem d_Md_init_314 : decode b_Md_init 314 = .ok (.iastore, 1) := by decide +kernel
theorem d_Md_init_315 : decode b_Md_init 315 = .ok (.dup, 1) := by decide +kernel
theorem d_Md_init_316 : decode b_Md_init 316 = .ok (.bipush 52, 2) := by decide +kernel
theorem d_Md_init_318 : decode b_Md_init 318 = .ok (.ldc 59, 2) := by decide +kernel
theorem d_Md_init_320 : decode b_Md_init 320 = .ok (.iastore, 1) := by decide +kernel
theorem d_Md_init_321 : decode b_Md_init 321 = .ok (.dup, 1) := by decide +kernel
theorem d_Md_init_322 : decode b_Md_init 322 = .ok (.bipush 53, 2) := by decide +kernel
theorem d_Md_init_324 : decode b_Md_init 324 = .ok (.ldc 60, 2) := by decide +kernel
theorem d_Md_init_326 : decode b_Md_init 326 = .ok (.iastore, 1) := by decide +kernel
theorem d_Md_init_327 : decode b_Md_init 327 = .ok (.dup, 1) := by decide +kernel
theorem d_Md_init_328 : decode b_Md_init 328 = .ok (.bipush 54, 2) := by decide +kernel
theorem d_Md_init_330 : decode b_Md_init 330 = .ok (.ldc 61, 2) := by decide +kernel
theorem d_Md_init_332 : decode b_Md_init 332 = .ok (.iastore, 1) := by decide +kernel
theorem d_Md_init_333 : decode b_Md_init 333 = .ok (.dup, 1) := by decide +kernel
theorem d_Md_init_334 : decode b_Md_init 334 = .ok (.bipush 55, 2) := by decide +kernel
theorem d_Md_init_336 : decode b_Md_init 336 = .ok (.ldc 62, 2) := by decide +kernel
theorem d_Md_init_338 : decode b_Md_init 338 = .ok (.iastore, 1) := by decide +kernel
theorem d_Md_init_339 : decode b_Md_init 339 = .ok (.dup, 1) := by decide +kernel
theorem d_Md_init_340 : decode b_Md_init 340 = .ok (.bipush 56, 2) := by decide +kernel
theorem d_Md_init_342 : decode b_Md_init 342 = .ok (.ldc 63, 2) := by decide +kernel
theorem d_Md_init_344 : decode b_Md_init 344 = .ok (.iastore, 1) := by decide +kernel
theorem d_Md_init_345 : decode b_Md_init 345 = .ok (.dup, 1) := by decide +kernel
theorem d_Md_init_346 : decode b_Md_init 346 = .ok (.bipush 57, 2) := by decide +kernel
theorem d_Md_init_348 : decode b_Md_init 348 = .ok (.ldc 64, 2) := by decide +kernel
theorem d_Md_init_350 : decode b_Md_init 350 = .ok (.iastore, 1) := by decide +kernel
theorem d_Md_init_351 : decode b_Md_init 351 = .ok (.dup, 1) := by decide +kernel
theorem d_Md_init_352 : decode b_Md_init 352 = .ok (.bipush 58, 2) := by decide +kernel
theorem d_Md_init_354 : decode b_Md_init 354 = .ok (.ldc 65, 2) := by decide +kernel
theorem d_Md_init_356 : decode b_Md_init 356 = .ok (.iastore, 1) := by decide +kernel
theorem d_Md_init_357 : decode b_Md_init 357 = .ok (.dup, 1) := by decide +kernel
theorem d_Md_init_358 : decode b_Md_init 358 = .ok (.bipush 59, 2) := by decide +kernel
theorem d_Md_init_360 : decode b_Md_init 360 = .ok (.ldc 66, 2) := by decide +kernel
theorem d_Md_init_362 : decode b_Md_init 362 = .ok (.iastore, 1) := by decide +kernel
theorem d_Md_init_363 : decode b_Md_init 363 = .ok (.dup, 1) := by decide +kernel
theorem d_Md_init_364 : decode b_Md_init 364 = .ok (.bipush 60, 2) := by decide +kernel
theorem d_Md_init_366 : decode b_Md_init 366 = .ok (.ldc 67, 2) := by decide +kernel
theorem d_Md_init_368 : decode b_Md_init 368 = .ok (.iastore, 1) := by decide +kernel
theorem d_Md_init_369 : decode b_Md_init 369 = .ok (.dup, 1) := by decide +kernel
theorem d_Md_init_370 : decode b_Md_init 370 = .ok (.bipush 61, 2) := by decide +kernel
theorem d_Md_init_372 : decode b_Md_init 372 = .ok (.ldc 68, 2) := by decide +kernel
theorem d_Md_init_374 : decode b_Md_init 374 = .ok (.iastore, 1) := by decide +kernel
theorem d_Md_init_375 : decode b_Md_init 375 = .ok (.dup, 1) := by decide +kernel
theorem d_Md_init_376 : decode b_Md_init 376 = .ok (.bipush 62, 2) := by decide +kernel
theorem d_Md_init_378 : decode b_Md_init 378 = .ok (.ldc 69, 2) := by decide +kernel
theorem d_Md_init_380 : decode b_Md_init 380 = .ok (.iastore, 1) := by decide +kernel
theorem d_Md_init_381 : decode b_Md_init 381 = .ok (.dup, 1) := by decide +kernel
theorem d_Md_init_382 : decode b_Md_init 382 = .ok (.bipush 63, 2) := by decide +kernel
theorem d_Md_init_384 : decode b_Md_init 384 = .ok (.ldc 70, 2) := by decide +kernel
theorem d_Md_init_386 : decode b_Md_init 386 = .ok (.iastore, 1) := by decide +kernel
theorem d_Md_init_387 : decode b_Md_init 387 = .ok (.putfield 71, 3) := by decide +kernel
theorem d_Md_init_390 : decode b_Md_init 390 = .ok (.aload_n 0, 1) := by decide +kernel
theorem d_Md_init_391 : decode b_Md_init 391 = .ok (.bipush 8, 2) := by decide +kernel
theorem d_Md_init_393 : decode b_Md_init 393 = .ok (.newarray .int, 2) := by decide +kernel
theorem d_Md_init_395 : decode b_Md_init 395 = .ok (.dup, 1) := by decide +kernel
theorem d_Md_init_396 : decode b_Md_init 396 = .ok (.iconst 0, 1) := by decide +kernel
theorem d_Md_init_397 : decode b_Md_init 397 = .ok (.ldc 77, 2) := by decide +kernel
theorem d_Md_init_399 : decode b_Md_init 399 = .ok (.iastore, 1) := by decide +kernel
theorem d_Md_init_400 : decode b_Md_init 400 = .ok (.dup, 1) := by decide +kernel
theorem d_Md_init_401 : decode b_Md_init 401 = .ok (.iconst 1, 1) := by decide +kernel
theorem d_Md_init_402 : decode b_Md_init 402 = .ok (.ldc 78, 2) := by decide +kernel
theorem d_Md_init_404 : decode b_Md_init 404 = .ok (.iastore, 1) := by decide +kernel
theorem d_Md_init_405 : decode b_Md_init 405 = .ok (.dup, 1) := by decide +kernel
theorem d_Md_init_406 : decode b_Md_init 406 = .ok (.iconst 2, 1) := by decide +kernel
theorem d_Md_init_407 : decode b_Md_init 407 = .ok (.ldc 79, 2) := by decide +kernel
theorem d_Md_init_409 : decode b_Md_init 409 = .ok (.iastore, 1) := by decide +kernel
theorem d_Md_init_410 : decode b_Md_init 410 = .ok (.dup, 1) := by decide +kernel
theorem d_Md_init_411 : decode b_Md_init 411 = .ok (.iconst 3, 1) := by decide +kernel
theorem d_Md_init_412 : decode b_Md_init 412 = .ok (.ldc 80, 2) := by decide +kernel
theorem d_Md_init_414 : decode b_Md_init 414 = .ok (.iastore, 1) := by decide +kernel
theorem d_Md_init_415 : decode b_Md_init 415 = .ok (.dup, 1) := by decide +kernel
theorem d_Md_init_416 : decode b_Md_init 416 = .ok (.iconst 4, 1) := by decide +kernel
theorem d_Md_init_417 : decode b_Md_init 417 = .ok (.ldc 81, 2) := by decide +kernel
theorem d_Md_init_419 : decode b_Md_init 419 = .ok (.iastore, 1) := by decide +kernel
theorem d_Md_init_420 : decode b_Md_init 420 = .ok (.dup, 1) := by decide +kernel
theorem d_Md_init_421 : decode b_Md_init 421 = .ok (.iconst 5, 1) := by decide +kernel
theorem d_Md_init_422 : decode b_Md_init 422 = .ok (.ldc 82, 2) := by decide +kernel
theorem d_Md_init_424 : decode b_Md_init 424 = .ok (.iastore, 1) := by decide +kernel
theorem d_Md_init_425 : decode b_Md_init 425 = .ok (.dup, 1) := by decide +kernel
theorem d_Md_init_426 : decode b_Md_init 426 = .ok (.bipush 6, 2) := by decide +kernel
theorem d_Md_init_428 : decode b_Md_init 428 = .ok (.ldc 83, 2) := by decide +kernel
theorem d_Md_init_430 : decode b_Md_init 430 = .ok (.iastore, 1) := by decide +kernel
theorem d_Md_init_431 : decode b_Md_init 431 = .ok (.dup, 1) := by decide +kernel
theorem d_Md_init_432 : decode b_Md_init 432 = .ok (.bipush 7, 2) := by decide +kernel
theorem d_Md_init_434 : decode b_Md_init 434 = .ok (.ldc 84, 2) := by decide +kernel
theorem d_Md_init_436 : decode b_Md_init 436 = .ok (.iastore, 1) := by decide +kernel
theorem d_Md_init_437 : decode b_Md_init 437 = .ok (.putfield 85, 3) := by decide +kernel
theorem d_Md_init_440 : decode b_Md_init 440 = .ok (.aload_n 0, 1) := by decide +kernel
theorem d_Md_init_441 : decode b_Md_init 441 = .ok (.bipush 64, 2) := by decide +kernel
theorem d_Md_init_443 : decode b_Md_init 443 = .ok (.newarray .int, 2) := by decide +kernel
theorem d_Md_init_445 : decode b_Md_init 445 = .ok (.putfield 88, 3) := by decide +kernel
theorem d_Md_init_448 : decode b_Md_init 448 = .ok (.aload_n 0, 1) := by decide +kernel
theorem d_Md_init_449 : decode b_Md_init 449 = .ok (.bipush 8, 2) := by decide +kernel
theorem d_Md_init_451 : decode b_Md_init 451 = .ok (.newarray .int, 2) := by decide +kernel
theorem d_Md_init_453 : decode b_Md_init 453 = .ok (.putfield 91, 3) := by decide +kernel
theorem d_Md_init_456 : decode b_Md_init 456 = .ok (.aload_n 0, 1) := by decide +kernel
theorem d_Md_init_457 : decode b_Md_init 457 = .ok (.bipush 8, 2) := by decide +kernel
theorem d_Md_init_459 : decode b_Md_init 459 = .ok (.newarray .int, 2) := by decide +kernel
theorem d_Md_init_461 : decode b_Md_init 461 = .ok (.putfield 94, 3) := by decide +kernel
theorem d_Md_init_464 : decode b_Md_init 464 = .ok (.aload_n 0, 1) := by decide +kernel
theorem d_Md_init_465 : decode b_Md_init 465 = .ok (.sipush 256, 3) := by decide +kernel
theorem d_Md_init_468 : decode b_Md_init 468 = .ok (.newarray .int, 2) := by decide +kernel
theorem d_Md_init_470 : decode b_Md_init 470 = .ok (.putfield 97, 3) := by decide +kernel
theorem d_Md_init_473 : decode b_Md_init 473 = .ok (.aload_n 0, 1) := by decide +kernel
theorem d_Md_init_474 : decode b_Md_init 474 = .ok (.bipush 64, 2) := by decide +kernel
theorem d_Md_init_476 : decode b_Md_init 476 = .ok (.newarray .int, 2) := by decide +kernel
theorem d_Md_init_478 : decode b_Md_init 478 = .ok (.putfield 100, 3) := by decide +kernel
theorem d_Md_init_481 : decode b_Md_init 481 = .ok (.aload_n 0, 1) := by decide +kernel
theorem d_Md_init_482 : decode b_Md_init 482 = .ok (.bipush 64, 2) := by decide +kernel
theorem d_Md_init_484 : decode b_Md_init 484 = .ok (.newarray .int, 2) := by decide +kernel
theorem d_Md_init_486 : decode b_Md_init 486 = .ok (.putfield 103, 3) := by decide +kernel
theorem d_Md_init_489 : decode b_Md_init 489 = .ok (.aload_n 0, 1) := by decide +kernel
theorem d_Md_init_490 : decode b_Md_init 490 = .ok (.bipush 32, 2) := by decide +kernel
theorem d_Md_init_492 : decode b_Md_init 492 = .ok (.newarray .int, 2) := by decide +kernel
theorem d_Md_init_494 : decode b_Md_init 494 = .ok (.putfield 106, 3) := by decide +kernel
theorem d_Md_init_497 : decode b_Md_init 497 = .ok (.aload_n 0, 1) := by decide +kernel
theorem d_Md_init_498 : decode b_Md_init 498 = .ok (.bipush 8, 2) := by decide +kernel
theorem d_Md_init_500 : decode b_Md_init 500 = .ok (.newarray .int, 2) := by decide +kernel
theorem d_Md_init_502 : decode b_Md_init 502 = .ok (.putfield 109, 3) := by decide +kernel
theorem d_Md_init_505 : decode b_Md_init 505 = .ok (.aload_n 0, 1) := by decide +kernel
theorem d_Md_init_506 : decode b_Md_init 506 = .ok (.sipush 10400, 3) := by decide +kernel
theorem d_Md_init_509 : decode b_Md_init 509 = .ok (.newarray .int, 2) := by decide +kernel
theorem d_Md_init_511 : decode b_Md_init 511 = .ok (.putfield 112, 3) := by decide +kernel
theorem d_Md_init_514 : decode b_Md_init 514 = .ok (.aload_n 0, 1) := by decide +kernel
theorem d_Md_init_515 : decode b_Md_init 515 = .ok (.sipush 200, 3) := by decide +kernel
theorem d_Md_init_518 : decode b_Md_init 518 = .ok (.newarray .int, 2) := by decide +kernel
theorem d_Md_init_520 : decode b_Md_init 520 = .ok (.putfield 115, 3) := by decide +kernel
theorem d_Md_init_523 : decode b_Md_init 523 = .ok (.aload_n 0, 1) := by decide +kernel
theorem d_Md_init_524 : decode b_Md_init 524 = .ok (.sipush 13600, 3) := by decide +kernel
theorem d_Md_init_527 : decode b_Md_init 527 = .ok (.newarray .int, 2) := by decide +kernel
theorem d_Md_init_529 : decode b_Md_init 529 = .ok (.putfield 118, 3) := by decide +kernel
theorem d_Md_init_532 : decode b_Md_init 532 = .ok (.aload_n 0, 1) := by decide +kernel
theorem d_Md_init_533 : decode b_Md_init 533 = .ok (.bipush 8, 2) := by decide +kernel
theorem d_Md_init_535 : decode b_Md_init 535 = .ok (.newarray .int, 2) := by decide +kernel
theorem d_Md_init_537 : decode b_Md_init 537 = .ok (.putfield 121, 3) := by decide +kernel
theorem d_Md_init_540 : decode b_Md_init 540 = .ok (.aload_n 0, 1) := by decide +kernel
theorem d_Md_init_541 : decode b_Md_init 541 = .ok (.bipush 64, 2) := by decide +kernel
theorem d_Md_init_543 : decode b_Md_init 543 = .ok (.newarray .boolean, 2) := by decide +kernel
theorem d_Md_init_545 : decode b_Md_init 545 = .ok (.putfield 124, 3) := by decide +kernel
theorem d_Md_init_548 : decode b_Md_init 548 = .ok (.aload_n 0, 1) := by decide +kernel
theorem d_Md_init_549 : decode b_Md_init 549 = .ok (.bipush 64, 2) := by decide +kernel
theorem d_Md_init_551 : decode b_Md_init 551 = .ok (.newarray .int, 2) := by decide +kernel
theorem d_Md_init_553 : decode b_Md_init 553 = .ok (.putfield 128, 3) := by decide +kernel
theorem d_Md_init_556 : decode b_Md_init 556 = .ok (.aload_n 0, 1) := by decide +kernel
theorem d_Md_init_557 : decode b_Md_init 557 = .ok (.bipush 64, 2) := by decide +kernel
theorem d_Md_init_559 : decode b_Md_init 559 = .ok (.newarray .int, 2) := by decide +kernel
theorem d_Md_init_561 : decode b_Md_init 561 = .ok (.putfield 131, 3) := by decide +kernel
theorem d_Md_init_564 : decode b_Md_init 564 = .ok (.aload_n 0, 1) := by decide +kernel
theorem d_Md_init_565 : decode b_Md_init 565 = .ok (.sipush 1280, 3) := by decide +kernel
theorem d_Md_init_568 : decode b_Md_init 568 = .ok (.newarray .int, 2) := by decide +kernel
theorem d_Md_init_570 : decode b_Md_init 570 = .ok (.putfield 134, 3) := by decide +kernel
theorem d_Md_init_573 : decode b_Md_init 573 = .ok (.aload_n 0, 1) := by decide +kernel
theorem d_Md_init_574 : decode b_Md_init 574 = .ok (.bipush 64, 2) := by decide +kernel
theorem d_Md_init_576 : decode b_Md_init 576 = .ok (.newarray .int, 2) := by decide +kernel
theorem d_Md_init_578 : decode b_Md_init 578 = .ok (.putfield 137, 3) := by decide +kernel
theorem d_Md_init_581 : decode b_Md_init 581 = .ok (.aload_n 0, 1) := by decide +kernel
theorem d_Md_init_582 : decode b_Md_init 582 = .ok (.bipush 8, 2) := by decide +kernel
theorem d_Md_init_584 : decode b_Md_init 584 = .ok (.newarray .int, 2) := by decide +kernel
theorem d_Md_init_586 : decode b_Md_init 586 = .ok (.putfield 140, 3) := by decide +kernel
theorem d_Md_init_589 : decode b_Md_init 589 = .ok (.aload_n 0, 1) := by decide +kernel
theorem d_Md_init_590 : decode b_Md_init 590 = .ok (.sipush 128, 3) := by decide +kernel
theorem d_Md_init_593 : decode b_Md_init 593 = .ok (.newarray .int, 2) := by decide +kernel
theorem d_Md_init_595 : decode b_Md_init 595 = .ok (.putfield 143, 3) := by decide +kernel
theorem d_Md_init_598 : decode b_Md_init 598 = .ok (.aload_n 0, 1) := by decide +kernel
theorem d_Md_init_599 : decode b_Md_init 599 = .ok (.sipush 8704, 3) := by decide +kernel
theorem d_Md_init_602 : decode b_Md_init 602 = .ok (.newarray .int, 2) := by decide +kernel
theorem d_Md_init_604 : decode b_Md_init 604 = .ok (.putfield 146, 3) := by decide +kernel
theorem d_Md_init_607 : decode b_Md_init 607 = .ok (.aload_n 0, 1) := by decide +kernel
theorem d_Md_init_608 : decode b_Md_init 608 = .ok (.bipush 8, 2) := by decide +kernel
theorem d_Md_init_610 : decode b_Md_init 610 = .ok (.newarray .int, 2) := by decide +kernel
theorem d_Md_init_612 : decode b_Md_init 612 = .ok (.putfield 149, 3) := by decide +kernel
theorem d_Md_init_615 : decode b_Md_init 615 = .ok (.aload_n 0, 1) := by decide +kernel
theorem d_Md_init_616 : decode b_Md_init 616 = .ok (.sipush 8192, 3) := by decide +kernel
theorem d_Md_init_619 : decode b_Md_init 619 = .ok (.newarray .int, 2) := by decide +kernel
theorem d_Md_init_621 : decode b_Md_init 621 = .ok (.putfield 152, 3) := by decide +kernel
theorem d_Md_init_624 : decode b_Md_init 624 = .ok (.aload_n 0, 1) := by decide +kernel
theorem d_Md_init_625 : decode b_Md_init 625 = .ok (.ldc 155, 2) := by decide +kernel
theorem d_Md_init_627 : decode b_Md_init 627 = .ok (.newarray .int, 2) := by decide +kernel
theorem d_Md_init_629 : decode b_Md_init 629 = .ok (.putfield 156, 3) := by decide +kernel
theorem d_Md_init_632 : decode b_Md_init 632 = .ok (.aload_n 0, 1) := by decide +kernel
theorem d_Md_init_633 : decode b_Md_init 633 = .ok (.sipush 800, 3) := by decide +kernel
theorem d_Md_init_636 : decode b_Md_init 636 = .ok (.newarray .int, 2) := by decide +kernel
theorem d_Md_init_638 : decode b_Md_init 638 = .ok (.putfield 159, 3) := by decide +kernel
theorem d_Md_init_641 : decode b_Md_init 641 = .ok (.aload_n 0, 1) := by decide +kernel
theorem d_Md_init_642 : decode b_Md_init 642 = .ok (.ldc 162, 2) := by decide +kernel
theorem d_Md_init_644 : decode b_Md_init 644 = .ok (.newarray .int, 2) := by decide +kernel
theorem d_Md_init_646 : decode b_Md_init 646 = .ok (.putfield 163, 3) := by decide +kernel
theorem d_Md_init_649 : decode b_Md_init 649 = .ok (.aload_n 0, 1) := by decide +kernel
theorem d_Md_init_650 : decode b_Md_init 650 = .ok (.bipush 68, 2) := by decide +kernel
theorem d_Md_init_652 : decode b_Md_init 652 = .ok (.newarray .int, 2) := by decide +kernel
theorem d_Md_init_654 : decode b_Md_init 654 = .ok (.putfield 166, 3) := by decide +kernel
theorem d_Md_init_657 : decode b_Md_init 657 = .ok (.aload_n 0, 1) := by decide +kernel
theorem d_Md_init_658 : decode b_Md_init 658 = .ok (.bipush 20, 2) := by decide +kernel
theorem d_Md_init_660 : decode b_Md_init 660 = .ok (.newarray .int, 2) := by decide +kernel
theorem d_Md_init_662 : decode b_Md_init 662 = .ok (.putfield 169, 3) := by decide +kernel
theorem d_Md_init_665 : decode b_Md_init 665 = .ok (.aload_n 0, 1) := by decide +kernel
theorem d_Md_init_666 : decode b_Md_init 666 = .ok (.bipush 68, 2) := by decide +kernel
theorem d_Md_init_668 : decode b_Md_init 668 = .ok (.newarray .int, 2) := by decide +kernel
theorem d_Md_init_670 : decode b_Md_init 670 = .ok (.putfield 172, 3) := by decide +kernel
theorem d_Md_init_673 : decode b_Md_init 673 = .ok (.aload_n 0, 1) := by decide +kernel
theorem d_Md_init_674 : decode b_Md_init 674 = .ok (.iconst 1, 1) := by decide +kernel
theorem d_Md_init_675 : decode b_Md_init 675 = .ok (.iload_n 1, 1) := by decide +kernel
theorem d_Md_init_676 : decode b_Md_init 676 = .ok (.bipush 8, 2) := by decide +kernel
theorem d_Md_init_678 : decode b_Md_init 678 = .ok (.invokestatic 175, 3) := by decide +kernel
theorem d_Md_init_681 : decode b_Md_init 681 = .ok (.iadd, 1) := by decide +kernel
theorem d_Md_init_682 : decode b_Md_init 682 = .ok (.putfield 179, 3) := by decide +kernel
theorem d_Md_init_685 : decode b_Md_init 685 = .ok (.aload_n 0, 1) := by decide +kernel
theorem d_Md_init_686 : decode b_Md_init 686 = .ok (.iconst 1, 1) := by decide +kernel
theorem d_Md_init_687 : decode b_Md_init 687 = .ok (.iload_n 2, 1) := by decide +kernel
theorem d_Md_init_688 : decode b_Md_init 688 = .ok (.sipush 1000, 3) := by decide +kernel
theorem d_Md_init_691 : decode b_Md_init 691 = .ok (.invokestatic 175, 3) := by decide +kernel
theorem d_Md_init_694 : decode b_Md_init 694 = .ok (.iadd, 1) := by decide +kernel
theorem d_Md_init_695 : decode b_Md_init 695 = .ok (.putfield 183, 3) := by decide +kernel
theorem d_Md_init_698 : decode b_Md_init 698 = .ok (.aload_n 0, 1) := by decide +kernel
theorem d_Md_init_699 : decode b_Md_init 699 = .ok (.iload_n 3, 1) := by decide +kernel
theorem d_Md_init_700 : decode b_Md_init 700 = .ok (.sipush 10001, 3) := by decide +kernel
theorem d_Md_init_703 : decode b_Md_init 703 = .ok (.invokestatic 175, 3) := by decide +kernel
theorem d_Md_init_706 : decode b_Md_init 706 = .ok (.putfield 186, 3) := by decide +kernel
theorem d_Md_init_709 : decode b_Md_init 709 = .ok (.return_, 1) := by decide +kernel
