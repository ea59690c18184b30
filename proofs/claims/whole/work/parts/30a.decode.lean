theorem d_Lw_law_0 : decode b_Lw_law 0 = .ok (.new 8, 3) := by decide +kernel
theorem d_Lw_law_3 : decode b_Lw_law 3 = .ok (.dup, 1) := by decide +kernel
theorem d_Lw_law_4 : decode b_Lw_law 4 = .ok (.aload_n 0, 1) := by decide +kernel
theorem d_Lw_law_5 : decode b_Lw_law 5 = .ok (.iconst 0, 1) := by decide +kernel
theorem d_Lw_law_6 : decode b_Lw_law 6 = .ok (.invokestatic 66, 3) := by decide +kernel
theorem d_Lw_law_9 : decode b_Lw_law 9 = .ok (.aload_n 0, 1) := by decide +kernel
theorem d_Lw_law_10 : decode b_Lw_law 10 = .ok (.iconst 1, 1) := by decide +kernel
theorem d_Lw_law_11 : decode b_Lw_law 11 = .ok (.invokestatic 66, 3) := by decide +kernel
theorem d_Lw_law_14 : decode b_Lw_law 14 = .ok (.aload_n 0, 1) := by decide +kernel
theorem d_Lw_law_15 : decode b_Lw_law 15 = .ok (.iconst 2, 1) := by decide +kernel
theorem d_Lw_law_16 : decode b_Lw_law 16 = .ok (.invokestatic 66, 3) := by decide +kernel
theorem d_Lw_law_19 : decode b_Lw_law 19 = .ok (.invokespecial 72, 3) := by decide +kernel
theorem d_Lw_law_22 : decode b_Lw_law 22 = .ok (.astore_n 1, 1) := by decide +kernel
theorem d_Lw_law_23 : decode b_Lw_law 23 = .ok (.new 75, 3) := by decide +kernel
theorem d_Lw_law_26 : decode b_Lw_law 26 = .ok (.dup, 1) := by decide +kernel
theorem d_Lw_law_27 : decode b_Lw_law 27 = .ok (.aload_n 0, 1) := by decide +kernel
theorem d_Lw_law_28 : decode b_Lw_law 28 = .ok (.iconst 0, 1) := by decide +kernel
theorem d_Lw_law_29 : decode b_Lw_law 29 = .ok (.invokestatic 66, 3) := by decide +kernel
theorem d_Lw_law_32 : decode b_Lw_law 32 = .ok (.aload_n 0, 1) := by decide +kernel
theorem d_Lw_law_33 : decode b_Lw_law 33 = .ok (.iconst 1, 1) := by decide +kernel
theorem d_Lw_law_34 : decode b_Lw_law 34 = .ok (.invokestatic 66, 3) := by decide +kernel
theorem d_Lw_law_37 : decode b_Lw_law 37 = .ok (.aload_n 0, 1) := by decide +kernel
theorem d_Lw_law_38 : decode b_Lw_law 38 = .ok (.iconst 2, 1) := by decide +kernel
theorem d_Lw_law_39 : decode b_Lw_law 39 = .ok (.invokestatic 66, 3) := by decide +kernel
theorem d_Lw_law_42 : decode b_Lw_law 42 = .ok (.invokespecial 77, 3) := by decide +kernel
theorem d_Lw_law_45 : decode b_Lw_law 45 = .ok (.astore_n 2, 1) := by decide +kernel
theorem d_Lw_law_46 : decode b_Lw_law 46 = .ok (.iconst 1, 1) := by decide +kernel
theorem d_Lw_law_47 : decode b_Lw_law 47 = .ok (.newarray .long, 2) := by decide +kernel
theorem d_Lw_law_49 : decode b_Lw_law 49 = .ok (.astore_n 3, 1) := by decide +kernel
theorem d_Lw_law_50 : decode b_Lw_law 50 = .ok (.iconst 3, 1) := by decide +kernel
theorem d_Lw_law_51 : decode b_Lw_law 51 = .ok (.istore 4, 2) := by decide +kernel
theorem d_Lw_law_53 : decode b_Lw_law 53 = .ok (.iload 4, 2) := by decide +kernel
theorem d_Lw_law_55 : decode b_Lw_law 55 = .ok (.aload_n 0, 1) := by decide +kernel
theorem d_Lw_law_56 : decode b_Lw_law 56 = .ok (.arraylength, 1) := by decide +kernel
theorem d_Lw_law_57 : decode b_Lw_law 57 = .ok (.bipush 6, 2) := by decide +kernel
theorem d_Lw_law_59 : decode b_Lw_law 59 = .ok (.isub, 1) := by decide +kernel
theorem d_Lw_law_60 : decode b_Lw_law 60 = .ok (.if_icmp .gt 1083, 3) := by decide +kernel
theorem d_Lw_law_63 : decode b_Lw_law 63 = .ok (.aload_n 0, 1) := by decide +kernel
theorem d_Lw_law_64 : decode b_Lw_law 64 = .ok (.iload 4, 2) := by decide +kernel
theorem d_Lw_law_66 : decode b_Lw_law 66 = .ok (.iaload, 1) := by decide +kernel
theorem d_Lw_law_67 : decode b_Lw_law 67 = .ok (.bipush 15, 2) := by decide +kernel
theorem d_Lw_law_69 : decode b_Lw_law 69 = .ok (.iand, 1) := by decide +kernel
theorem d_Lw_law_70 : decode b_Lw_law 70 = .ok (.tableswitch 1067 0 14 #[74, 178, 234, 302, 370, 426, 470, 538, 606, 654, 722, 814, 882, 962, 1042], 74) := by decide +kernel
theorem d_Lw_law_144 : decode b_Lw_law 144 = .ok (.aload_n 1, 1) := by decide +kernel
theorem d_Lw_law_145 : decode b_Lw_law 145 = .ok (.aload_n 0, 1) := by decide +kernel
theorem d_Lw_law_146 : decode b_Lw_law 146 = .ok (.iload 4, 2) := by decide +kernel
theorem d_Lw_law_148 : decode b_Lw_law 148 = .ok (.iconst 1, 1) := by decide +kernel
theorem d_Lw_law_149 : decode b_Lw_law 149 = .ok (.iadd, 1) := by decide +kernel
theorem d_Lw_law_150 : decode b_Lw_law 150 = .ok (.iaload, 1) := by decide +kernel
theorem d_Lw_law_151 : decode b_Lw_law 151 = .ok (.aload_n 0, 1) := by decide +kernel
theorem d_Lw_law_152 : decode b_Lw_law 152 = .ok (.iload 4, 2) := by decide +kernel
theorem d_Lw_law_154 : decode b_Lw_law 154 = .ok (.iconst 2, 1) := by decide +kernel
theorem d_Lw_law_155 : decode b_Lw_law 155 = .ok (.iadd, 1) := by decide +kernel
theorem d_Lw_law_156 : decode b_Lw_law 156 = .ok (.iaload, 1) := by decide +kernel
theorem d_Lw_law_157 : decode b_Lw_law 157 = .ok (.aload_n 0, 1) := by decide +kernel
theorem d_Lw_law_158 : decode b_Lw_law 158 = .ok (.iload 4, 2) := by decide +kernel
theorem d_Lw_law_160 : decode b_Lw_law 160 = .ok (.iconst 3, 1) := by decide +kernel
theorem d_Lw_law_161 : decode b_Lw_law 161 = .ok (.iadd, 1) := by decide +kernel
theorem d_Lw_law_162 : decode b_Lw_law 162 = .ok (.iaload, 1) := by decide +kernel
theorem d_Lw_law_163 : decode b_Lw_law 163 = .ok (.aload_n 0, 1) := by decide +kernel
theorem d_Lw_law_164 : decode b_Lw_law 164 = .ok (.iload 4, 2) := by decide +kernel
theorem d_Lw_law_166 : decode b_Lw_law 166 = .ok (.iconst 4, 1) := by decide +kernel
theorem d_Lw_law_167 : decode b_Lw_law 167 = .ok (.iadd, 1) := by decide +kernel
theorem d_Lw_law_168 : decode b_Lw_law 168 = .ok (.iaload, 1) := by decide +kernel
theorem d_Lw_law_169 : decode b_Lw_law 169 = .ok (.aload_n 0, 1) := by decide +kernel
theorem d_Lw_law_170 : decode b_Lw_law 170 = .ok (.iload 4, 2) := by decide +kernel
theorem d_Lw_law_172 : decode b_Lw_law 172 = .ok (.iconst 5, 1) := by decide +kernel
theorem d_Lw_law_173 : decode b_Lw_law 173 = .ok (.iadd, 1) := by decide +kernel
theorem d_Lw_law_174 : decode b_Lw_law 174 = .ok (.iaload, 1) := by decide +kernel
theorem d_Lw_law_175 : decode b_Lw_law 175 = .ok (.aload_n 3, 1) := by decide +kernel
theorem d_Lw_law_176 : decode b_Lw_law 176 = .ok (.invokestatic 78, 3) := by decide +kernel
theorem d_Lw_law_179 : decode b_Lw_law 179 = .ok (.istore 5, 2) := by decide +kernel
theorem d_Lw_law_181 : decode b_Lw_law 181 = .ok (.aload_n 2, 1) := by decide +kernel
theorem d_Lw_law_182 : decode b_Lw_law 182 = .ok (.aload_n 0, 1) := by decide +kernel
theorem d_Lw_law_183 : decode b_Lw_law 183 = .ok (.iload 4, 2) := by decide +kernel
theorem d_Lw_law_185 : decode b_Lw_law 185 = .ok (.iconst 1, 1) := by decide +kernel
theorem d_Lw_law_186 : decode b_Lw_law 186 = .ok (.iadd, 1) := by decide +kernel
theorem d_Lw_law_187 : decode b_Lw_law 187 = .ok (.iaload, 1) := by decide +kernel
theorem d_Lw_law_188 : decode b_Lw_law 188 = .ok (.aload_n 0, 1) := by decide +kernel
theorem d_Lw_law_189 : decode b_Lw_law 189 = .ok (.iload 4, 2) := by decide +kernel
theorem d_Lw_law_191 : decode b_Lw_law 191 = .ok (.iconst 2, 1) := by decide +kernel
theorem d_Lw_law_192 : decode b_Lw_law 192 = .ok (.iadd, 1) := by decide +kernel
theorem d_Lw_law_193 : decode b_Lw_law 193 = .ok (.iaload, 1) := by decide +kernel
theorem d_Lw_law_194 : decode b_Lw_law 194 = .ok (.aload_n 0, 1) := by decide +kernel
theorem d_Lw_law_195 : decode b_Lw_law 195 = .ok (.iload 4, 2) := by decide +kernel
theorem d_Lw_law_197 : decode b_Lw_law 197 = .ok (.iconst 3, 1) := by decide +kernel
theorem d_Lw_law_198 : decode b_Lw_law 198 = .ok (.iadd, 1) := by decide +kernel
theorem d_Lw_law_199 : decode b_Lw_law 199 = .ok (.iaload, 1) := by decide +kernel
theorem d_Lw_law_200 : decode b_Lw_law 200 = .ok (.aload_n 0, 1) := by decide +kernel
theorem d_Lw_law_201 : decode b_Lw_law 201 = .ok (.iload 4, 2) := by decide +kernel
theorem d_Lw_law_203 : decode b_Lw_law 203 = .ok (.iconst 4, 1) := by decide +kernel
theorem d_Lw_law_204 : decode b_Lw_law 204 = .ok (.iadd, 1) := by decide +kernel
theorem d_Lw_law_205 : decode b_Lw_law 205 = .ok (.iaload, 1) := by decide +kernel
theorem d_Lw_law_206 : decode b_Lw_law 206 = .ok (.aload_n 0, 1) := by decide +kernel
theorem d_Lw_law_207 : decode b_Lw_law 207 = .ok (.iload 4, 2) := by decide +kernel
theorem d_Lw_law_209 : decode b_Lw_law 209 = .ok (.iconst 5, 1) := by decide +kernel
theorem d_Lw_law_210 : decode b_Lw_law 210 = .ok (.iadd, 1) := by decide +kernel
theorem d_Lw_law_211 : decode b_Lw_law 211 = .ok (.iaload, 1) := by decide +kernel
theorem d_Lw_law_212 : decode b_Lw_law 212 = .ok (.invokevirtual 81, 3) := by decide +kernel
theorem d_Lw_law_215 : decode b_Lw_law 215 = .ok (.istore 6, 2) := by decide +kernel
theorem d_Lw_law_217 : decode b_Lw_law 217 = .ok (.aload_n 2, 1) := by decide +kernel
theorem d_Lw_law_218 : decode b_Lw_law 218 = .ok (.invokevirtual 82, 3) := by decide +kernel
theorem d_Lw_law_221 : decode b_Lw_law 221 = .ok (.iload 5, 2) := by decide +kernel
theorem d_Lw_law_223 : decode b_Lw_law 223 = .ok (.if_icmp .eq 5, 3) := by decide +kernel
theorem d_Lw_law_226 : decode b_Lw_law 226 = .ok (.iconst 0, 1) := by decide +kernel
theorem d_Lw_law_227 : decode b_Lw_law 227 = .ok (.ireturn, 1) := by decide +kernel
theorem d_Lw_law_228 : decode b_Lw_law 228 = .ok (.iload 5, 2) := by decide +kernel
theorem d_Lw_law_230 : decode b_Lw_law 230 = .ok (.ifCond .ne 15, 3) := by decide +kernel
theorem d_Lw_law_233 : decode b_Lw_law 233 = .ok (.aload_n 3, 1) := by decide +kernel
theorem d_Lw_law_234 : decode b_Lw_law 234 = .ok (.iconst 0, 1) := by decide +kernel
theorem d_Lw_law_235 : decode b_Lw_law 235 = .ok (.laload, 1) := by decide +kernel
theorem d_Lw_law_236 : decode b_Lw_law 236 = .ok (.iload 6, 2) := by decide +kernel
theorem d_Lw_law_238 : decode b_Lw_law 238 = .ok (.i2l, 1) := by decide +kernel
theorem d_Lw_law_239 : decode b_Lw_law 239 = .ok (.lcmp, 1) := by decide +kernel
theorem d_Lw_law_240 : decode b_Lw_law 240 = .ok (.ifCond .eq 5, 3) := by decide +kernel
theorem d_Lw_law_243 : decode b_Lw_law 243 = .ok (.iconst 0, 1) := by decide +kernel
theorem d_Lw_law_244 : decode b_Lw_law 244 = .ok (.ireturn, 1) := by decide +kernel
theorem d_Lw_law_245 : decode b_Lw_law 245 = .ok (.goto 892, 3) := by decide +kernel
theorem d_Lw_law_248 : decode b_Lw_law 248 = .ok (.aload_n 1, 1) := by decide +kernel
theorem d_Lw_law_249 : decode b_Lw_law 249 = .ok (.aload_n 0, 1) := by decide +kernel
theorem d_Lw_law_250 : decode b_Lw_law 250 = .ok (.iload 4, 2) := by decide +kernel
theorem d_Lw_law_252 : decode b_Lw_law 252 = .ok (.iconst 1, 1) := by decide +kernel
theorem d_Lw_law_253 : decode b_Lw_law 253 = .ok (.iadd, 1) := by decide +kernel
theorem d_Lw_law_254 : decode b_Lw_law 254 = .ok (.iaload, 1) := by decide +kernel
theorem d_Lw_law_255 : decode b_Lw_law 255 = .ok (.aload_n 3, 1) := by decide +kernel
theorem d_Lw_law_256 : decode b_Lw_law 256 = .ok (.invokestatic 85, 3) := by decide +kernel
theorem d_Lw_law_259 : decode b_Lw_law 259 = .ok (.istore 5, 2) := by decide +kernel
theorem d_Lw_law_261 : decode b_Lw_law 261 = .ok (.aload_n 2, 1) := by decide +kernel
theorem d_Lw_law_262 : decode b_Lw_law 262 = .ok (.aload_n 0, 1) := by decide +kernel
theorem d_Lw_law_263 : decode b_Lw_law 263 = .ok (.iload 4, 2) := by decide +kernel
theorem d_Lw_law_265 : decode b_Lw_law 265 = .ok (.iconst 1, 1) := by decide +kernel
theorem d_Lw_law_266 : decode b_Lw_law 266 = .ok (.iadd, 1) := by decide +kernel
theorem d_Lw_law_267 : decode b_Lw_law 267 = .ok (.iaload, 1) := by decide +kernel
theorem d_Lw_law_268 : decode b_Lw_law 268 = .ok (.invokevirtual 88, 3) := by decide +kernel
theorem d_Lw_law_271 : decode b_Lw_law 271 = .ok (.istore 6, 2) := by decide +kernel
theorem d_Lw_law_273 : decode b_Lw_law 273 = .ok (.aload_n 2, 1) := by decide +kernel
theorem d_Lw_law_274 : decode b_Lw_law 274 = .ok (.invokevirtual 82, 3) := by decide +kernel
theorem d_Lw_law_277 : decode b_Lw_law 277 = .ok (.iload 5, 2) := by decide +kernel
theorem d_Lw_law_279 : decode b_Lw_law 279 = .ok (.if_icmp .eq 5, 3) := by decide +kernel
theorem d_Lw_law_282 : decode b_Lw_law 282 = .ok (.iconst 0, 1) := by decide +kernel
theorem d_Lw_law_283 : decode b_Lw_law 283 = .ok (.ireturn, 1) := by decide +kernel
theorem d_Lw_law_284 : decode b_Lw_law 284 = .ok (.iload 5, 2) := by decide +kernel
theorem d_Lw_law_286 : decode b_Lw_law 286 = .ok (.ifCond .ne 15, 3) := by decide +kernel
theorem d_Lw_law_289 : decode b_Lw_law 289 = .ok (.aload_n 3, 1) := by decide +kernel
theorem d_Lw_law_290 : decode b_Lw_law 290 = .ok (.iconst 0, 1) := by decide +kernel
theorem d_Lw_law_291 : decode b_Lw_law 291 = .ok (.laload, 1) := by decide +kernel
theorem d_Lw_law_292 : decode b_Lw_law 292 = .ok (.iload 6, 2) := by decide +kernel
theorem d_Lw_law_294 : decode b_Lw_law 294 = .ok (.i2l, 1) := by decide +kernel
theorem d_Lw_law_295 : decode b_Lw_law 295 = .ok (.lcmp, 1) := by decide +kernel
theorem d_Lw_law_296 : decode b_Lw_law 296 = .ok (.ifCond .eq 5, 3) := by decide +kernel
theorem d_Lw_law_299 : decode b_Lw_law 299 = .ok (.iconst 0, 1) := by decide +kernel
theorem d_Lw_law_300 : decode b_Lw_law 300 = .ok (.ireturn, 1) := by decide +kernel
theorem d_Lw_law_301 : decode b_Lw_law 301 = .ok (.goto 836, 3) := by decide +kernel
theorem d_Lw_law_304 : decode b_Lw_law 304 = .ok (.aload_n 1, 1) := by decide +kernel
theorem d_Lw_law_305 : decode b_Lw_law 305 = .ok (.aload_n 0, 1) := by decide +kernel
theorem d_Lw_law_306 : decode b_Lw_law 306 = .ok (.iload 4, 2) := by decide +kernel
theorem d_Lw_law_308 : decode b_Lw_law 308 = .ok (.iconst 1, 1) := by decide +kernel
theorem d_Lw_law_309 : decode b_Lw_law 309 = .ok (.iadd, 1) := by decide +kernel
theorem d_Lw_law_310 : decode b_Lw_law 310 = .ok (.iaload, 1) := by decide +kernel
theorem d_Lw_law_311 : decode b_Lw_law 311 = .ok (.aload_n 0, 1) := by decide +kernel
theorem d_Lw_law_312 : decode b_Lw_law 312 = .ok (.iload 4, 2) := by decide +kernel
theorem d_Lw_law_314 : decode b_Lw_law 314 = .ok (.iconst 2, 1) := by decide +kernel
theorem d_Lw_law_315 : decode b_Lw_law 315 = .ok (.iadd, 1) := by decide +kernel
theorem d_Lw_law_316 : decode b_Lw_law 316 = .ok (.iaload, 1) := by decide +kernel
theorem d_Lw_law_317 : decode b_Lw_law 317 = .ok (.aload_n 3, 1) := by decide +kernel
theorem d_Lw_law_318 : decode b_Lw_law 318 = .ok (.invokestatic 89, 3) := by decide +kernel
theorem d_Lw_law_321 : decode b_Lw_law 321 = .ok (.istore 5, 2) := by decide +kernel
theorem d_Lw_law_323 : decode b_Lw_law 323 = .ok (.aload_n 2, 1) := by decide +kernel
theorem d_Lw_law_324 : decode b_Lw_law 324 = .ok (.aload_n 0, 1) := by decide +kernel
theorem d_Lw_law_325 : decode b_Lw_law 325 = .ok (.iload 4, 2) := by decide +kernel
theorem d_Lw_law_327 : decode b_Lw_law 327 = .ok (.iconst 1, 1) := by decide +kernel
theorem d_Lw_law_328 : decode b_Lw_law 328 = .ok (.iadd, 1) := by decide +kernel
theorem d_Lw_law_329 : decode b_Lw_law 329 = .ok (.iaload, 1) := by decide +kernel
theorem d_Lw_law_330 : decode b_Lw_law 330 = .ok (.aload_n 0, 1) := by decide +kernel
theorem d_Lw_law_331 : decode b_Lw_law 331 = .ok (.iload 4, 2) := by decide +kernel
theorem d_Lw_law_333 : decode b_Lw_law 333 = .ok (.iconst 2, 1) := by decide +kernel
theorem d_Lw_law_334 : decode b_Lw_law 334 = .ok (.iadd, 1) := by decide +kernel
theorem d_Lw_law_335 : decode b_Lw_law 335 = .ok (.iaload, 1) := by decide +kernel
theorem d_Lw_law_336 : decode b_Lw_law 336 = .ok (.invokevirtual 92, 3) := by decide +kernel
theorem d_Lw_law_339 : decode b_Lw_law 339 = .ok (.istore 6, 2) := by decide +kernel
theorem d_Lw_law_341 : decode b_Lw_law 341 = .ok (.aload_n 2, 1) := by decide +kernel
theorem d_Lw_law_342 : decode b_Lw_law 342 = .ok (.invokevirtual 82, 3) := by decide +kernel
theorem d_Lw_law_345 : decode b_Lw_law 345 = .ok (.iload 5, 2) := by decide +kernel
theorem d_Lw_law_347 : decode b_Lw_law 347 = .ok (.if_icmp .eq 5, 3) := by decide +kernel
theorem d_Lw_law_350 : decode b_Lw_law 350 = .ok (.iconst 0, 1) := by decide +kernel
theorem d_Lw_law_351 : decode b_Lw_law 351 = .ok (.ireturn, 1) := by decide +kernel
theorem d_Lw_law_352 : decode b_Lw_law 352 = .ok (.iload 5, 2) := by decide +kernel
theorem d_Lw_law_354 : decode b_Lw_law 354 = .ok (.ifCond .ne 15, 3) := by decide +kernel
theorem d_Lw_law_357 : decode b_Lw_law 357 = .ok (.aload_n 3, 1) := by decide +kernel
theorem d_Lw_law_358 : decode b_Lw_law 358 = .ok (.iconst 0, 1) := by decide +kernel
theorem d_Lw_law_359 : decode b_Lw_law 359 = .ok (.laload, 1) := by decide +kernel
theorem d_Lw_law_360 : decode b_Lw_law 360 = .ok (.iload 6, 2) := by decide +kernel
theorem d_Lw_law_362 : decode b_Lw_law 362 = .ok (.i2l, 1) := by decide +kernel
theorem d_Lw_law_363 : decode b_Lw_law 363 = .ok (.lcmp, 1) := by decide +kernel
theorem d_Lw_law_364 : decode b_Lw_law 364 = .ok (.ifCond .eq 5, 3) := by decide +kernel
theorem d_Lw_law_367 : decode b_Lw_law 367 = .ok (.iconst 0, 1) := by decide +kernel
theorem d_Lw_law_368 : decode b_Lw_law 368 = .ok (.ireturn, 1) := by decide +kernel
theorem d_Lw_law_369 : decode b_Lw_law 369 = .ok (.goto 768, 3) := by decide +kernel
theorem d_Lw_law_372 : decode b_Lw_law 372 = .ok (.aload_n 1, 1) := by decide +kernel
theorem d_Lw_law_373 : decode b_Lw_law 373 = .ok (.aload_n 0, 1) := by decide +kernel
theorem d_Lw_law_374 : decode b_Lw_law 374 = .ok (.iload 4, 2) := by decide +kernel
theorem d_Lw_law_376 : decode b_Lw_law 376 = .ok (.iconst 1, 1) := by decide +kernel
theorem d_Lw_law_377 : decode b_Lw_law 377 = .ok (.iadd, 1) := by decide +kernel
theorem d_Lw_law_378 : decode b_Lw_law 378 = .ok (.iaload, 1) := by decide +kernel
theorem d_Lw_law_379 : decode b_Lw_law 379 = .ok (.aload_n 0, 1) := by decide +kernel
theorem d_Lw_law_380 : decode b_Lw_law 380 = .ok (.iload 4, 2) := by decide +kernel
theorem d_Lw_law_382 : decode b_Lw_law 382 = .ok (.iconst 2, 1) := by decide +kernel
theorem d_Lw_law_383 : decode b_Lw_law 383 = .ok (.iadd, 1) := by decide +kernel
theorem d_Lw_law_384 : decode b_Lw_law 384 = .ok (.iaload, 1) := by decide +kernel
theorem d_Lw_law_385 : decode b_Lw_law 385 = .ok (.aload_n 3, 1) := by decide +kernel
theorem d_Lw_law_386 : decode b_Lw_law 386 = .ok (.invokestatic 93, 3) := by decide +kernel
theorem d_Lw_law_389 : decode b_Lw_law 389 = .ok (.istore 5, 2) := by decide +kernel
theorem d_Lw_law_391 : decode b_Lw_law 391 = .ok (.aload_n 2, 1) := by decide +kernel
theorem d_Lw_law_392 : decode b_Lw_law 392 = .ok (.aload_n 0, 1) := by decide +kernel
theorem d_Lw_law_393 : decode b_Lw_law 393 = .ok (.iload 4, 2) := by decide +kernel
theorem d_Lw_law_395 : decode b_Lw_law 395 = .ok (.iconst 1, 1) := by decide +kernel
theorem d_Lw_law_396 : decode b_Lw_law 396 = .ok (.iadd, 1) := by decide +kernel
theorem d_Lw_law_397 : decode b_Lw_law 397 = .ok (.iaload, 1) := by decide +kernel
theorem d_Lw_law_398 : decode b_Lw_law 398 = .ok (.aload_n 0, 1) := by decide +kernel
theorem d_Lw_law_399 : decode b_Lw_law 399 = .ok (.iload 4, 2) := by decide +kernel
theorem d_Lw_law_401 : decode b_Lw_law 401 = .ok (.iconst 2, 1) := by decide +kernel
theorem d_Lw_law_402 : decode b_Lw_law 402 = .ok (.iadd, 1) := by decide +kernel
theorem d_Lw_law_403 : decode b_Lw_law 403 = .ok (.iaload, 1) := by decide +kernel
theorem d_Lw_law_404 : decode b_Lw_law 404 = .ok (.invokevirtual 95, 3) := by decide +kernel
theorem d_Lw_law_407 : decode b_Lw_law 407 = .ok (.istore 6, 2) := by decide +kernel
theorem d_Lw_law_409 : decode b_Lw_law 409 = .ok (.aload_n 2, 1) := by decide +kernel
theorem d_Lw_law_410 : decode b_Lw_law 410 = .ok (.invokevirtual 82, 3) := by decide +kernel
theorem d_Lw_law_413 : decode b_Lw_law 413 = .ok (.iload 5, 2) := by decide +kernel
theorem d_Lw_law_415 : decode b_Lw_law 415 = .ok (.if_icmp .eq 5, 3) := by decide +kernel
theorem d_Lw_law_418 : decode b_Lw_law 418 = .ok (.iconst 0, 1) := by decide +kernel
theorem d_Lw_law_419 : decode b_Lw_law 419 = .ok (.ireturn, 1) := by decide +kernel
theorem d_Lw_law_420 : decode b_Lw_law 420 = .ok (.iload 5, 2) := by decide +kernel
theorem d_Lw_law_422 : decode b_Lw_law 422 = .ok (.ifCond .ne 15, 3) := by decide +kernel
theorem d_Lw_law_425 : decode b_Lw_law 425 = .ok (.aload_n 3, 1) := by decide +kernel
theorem d_Lw_law_426 : decode b_Lw_law 426 = .ok (.iconst 0, 1) := by decide +kernel
theorem d_Lw_law_427 : decode b_Lw_law 427 = .ok (.laload, 1) := by decide +kernel
theorem d_Lw_law_428 : decode b_Lw_law 428 = .ok (.iload 6, 2) := by decide +kernel
theorem d_Lw_law_430 : decode b_Lw_law 430 = .ok (.i2l, 1) := by decide +kernel
theorem d_Lw_law_431 : decode b_Lw_law 431 = .ok (.lcmp, 1) := by decide +kernel
theorem d_Lw_law_432 : decode b_Lw_law 432 = .ok (.ifCond .eq 5, 3) := by decide +kernel
theorem d_Lw_law_435 : decode b_Lw_law 435 = .ok (.iconst 0, 1) := by decide +kernel
theorem d_Lw_law_436 : decode b_Lw_law 436 = .ok (.ireturn, 1) := by decide +kernel
theorem d_Lw_law_437 : decode b_Lw_law 437 = .ok (.goto 700, 3) := by decide +kernel
theorem d_Lw_law_440 : decode b_Lw_law 440 = .ok (.aload_n 1, 1) := by decide +kernel
theorem d_Lw_law_441 : decode b_Lw_law 441 = .ok (.aload_n 0, 1) := by decide +kernel
theorem d_Lw_law_442 : decode b_Lw_law 442 = .ok (.iload 4, 2) := by decide +kernel
theorem d_Lw_law_444 : decode b_Lw_law 444 = .ok (.iconst 1, 1) := by decide +kernel
theorem d_Lw_law_445 : decode b_Lw_law 445 = .ok (.iadd, 1) := by decide +kernel
theorem d_Lw_law_446 : decode b_Lw_law 446 = .ok (.iaload, 1) := by decide +kernel
theorem d_Lw_law_447 : decode b_Lw_law 447 = .ok (.aload_n 3, 1) := by decide +kernel
theorem d_Lw_law_448 : decode b_Lw_law 448 = .ok (.invokestatic 96, 3) := by decide +kernel
theorem d_Lw_law_451 : decode b_Lw_law 451 = .ok (.istore 5, 2) := by decide +kernel
theorem d_Lw_law_453 : decode b_Lw_law 453 = .ok (.aload_n 2, 1) := by decide +kernel
theorem d_Lw_law_454 : decode b_Lw_law 454 = .ok (.aload_n 0, 1) := by decide +kernel
theorem d_Lw_law_455 : decode b_Lw_law 455 = .ok (.iload 4, 2) := by decide +kernel
theorem d_Lw_law_457 : decode b_Lw_law 457 = .ok (.iconst 1, 1) := by decide +kernel
theorem d_Lw_law_458 : decode b_Lw_law 458 = .ok (.iadd, 1) := by decide +kernel
theorem d_Lw_law_459 : decode b_Lw_law 459 = .ok (.iaload, 1) := by decide +kernel
theorem d_Lw_law_460 : decode b_Lw_law 460 = .ok (.invokevirtual 98, 3) := by decide +kernel
theorem d_Lw_law_463 : decode b_Lw_law 463 = .ok (.istore 6, 2) := by decide +kernel
theorem d_Lw_law_465 : decode b_Lw_law 465 = .ok (.aload_n 2, 1) := by decide +kernel
theorem d_Lw_law_466 : decode b_Lw_law 466 = .ok (.invokevirtual 82, 3) := by decide +kernel
theorem d_Lw_law_469 : decode b_Lw_law 469 = .ok (.iload 5, 2) := by decide +kernel
theorem d_Lw_law_471 : decode b_Lw_law 471 = .ok (.if_icmp .eq 5, 3) := by decide +kernel
theorem d_Lw_law_474 : decode b_Lw_law 474 = .ok (.iconst 0, 1) := by decide +kernel
theorem d_Lw_law_475 : decode b_Lw_law 475 = .ok (.ireturn, 1) := by decide +kernel
theorem d_Lw_law_476 : decode b_Lw_law 476 = .ok (.iload 5, 2) := by decide +kernel
theorem d_Lw_law_478 : decode b_Lw_law 478 = .ok (.ifCond .ne 15, 3) := by decide +kernel
theorem d_Lw_law_481 : decode b_Lw_law 481 = .ok (.aload_n 3, 1) := by decide +kernel
theorem d_Lw_law_482 : decode b_Lw_law 482 = .ok (.iconst 0, 1) := by decide +kernel
theorem d_Lw_law_483 : decode b_Lw_law 483 = .ok (.laload, 1) := by decide +kernel
theorem d_Lw_law_484 : decode b_Lw_law 484 = .ok (.iload 6, 2) := by decide +kernel
theorem d_Lw_law_486 : decode b_Lw_law 486 = .ok (.i2l, 1) := by decide +kernel
theorem d_Lw_law_487 : decode b_Lw_law 487 = .ok (.lcmp, 1) := by decide +kernel
theorem d_Lw_law_488 : decode b_Lw_law 488 = .ok (.ifCond .eq 5, 3) := by decide +kernel
theorem d_Lw_law_491 : decode b_Lw_law 491 = .ok (.iconst 0, 1) := by decide +kernel
theorem d_Lw_law_492 : decode b_Lw_law 492 = .ok (.ireturn, 1) := by decide +kernel
theorem d_Lw_law_493 : decode b_Lw_law 493 = .ok (.goto 644, 3) := by decide +kernel
theorem d_Lw_law_496 : decode b_Lw_law 496 = .ok (.aload_n 1, 1) := by decide +kernel
theorem d_Lw_law_497 : decode b_Lw_law 497 = .ok (.aload_n 3, 1) := by decide +kernel
theorem d_Lw_law_498 : decode b_Lw_law 498 = .ok (.invokestatic 99, 3) := by decide +kernel
theorem d_Lw_law_501 : decode b_Lw_law 501 = .ok (.istore 5, 2) := by decide +kernel
theorem d_Lw_law_503 : decode b_Lw_law 503 = .ok (.aload_n 2, 1) := by decide +kernel
theorem d_Lw_law_504 : decode b_Lw_law 504 = .ok (.invokevirtual 102, 3) := by decide +kernel
theorem d_Lw_law_507 : decode b_Lw_law 507 = .ok (.istore 6, 2) := by decide +kernel
theorem d_Lw_law_509 : decode b_Lw_law 509 = .ok (.aload_n 2, 1) := by decide +kernel
theorem d_Lw_law_510 : decode b_Lw_law 510 = .ok (.invokevirtual 82, 3) := by decide +kernel
theorem d_Lw_law_513 : decode b_Lw_law 513 = .ok (.iload 5, 2) := by decide +kernel
theorem d_Lw_law_515 : decode b_Lw_law 515 = .ok (.if_icmp .eq 5, 3) := by decide +kernel
theorem d_Lw_law_518 : decode b_Lw_law 518 = .ok (.iconst 0, 1) := by decide +kernel
theorem d_Lw_law_519 : decode b_Lw_law 519 = .ok (.ireturn, 1) := by decide +kernel
theorem d_Lw_law_520 : decode b_Lw_law 520 = .ok (.iload 5, 2) := by decide +kernel
theorem d_Lw_law_522 : decode b_Lw_law 522 = .ok (.ifCond .ne 15, 3) := by decide +kernel
theorem d_Lw_law_525 : decode b_Lw_law 525 = .ok (.aload_n 3, 1) := by decide +kernel
theorem d_Lw_law_526 : decode b_Lw_law 526 = .ok (.iconst 0, 1) := by decide +kernel
theorem d_Lw_law_527 : decode b_Lw_law 527 = .ok (.laload, 1) := by decide +kernel
theorem d_Lw_law_528 : decode b_Lw_law 528 = .ok (.iload 6, 2) := by decide +kernel
theorem d_Lw_law_530 : decode b_Lw_law 530 = .ok (.i2l, 1) := by decide +kernel
theorem d_Lw_law_531 : decode b_Lw_law 531 = .ok (.lcmp, 1) := by decide +kernel
theorem d_Lw_law_532 : decode b_Lw_law 532 = .ok (.ifCond .eq 5, 3) := by decide +kernel
theorem d_Lw_law_535 : decode b_Lw_law 535 = .ok (.iconst 0, 1) := by decide +kernel
theorem d_Lw_law_536 : decode b_Lw_law 536 = .ok (.ireturn, 1) := by decide +kernel
theorem d_Lw_law_537 : decode b_Lw_law 537 = .ok (.goto 600, 3) := by decide +kernel
theorem d_Lw_law_540 : decode b_Lw_law 540 = .ok (.aload_n 1, 1) := by decide +kernel
theorem d_Lw_law_541 : decode b_Lw_law 541 = .ok (.aload_n 0, 1) := by decide +kernel
theorem d_Lw_law_542 : decode b_Lw_law 542 = .ok (.iload 4, 2) := by decide +kernel
theorem d_Lw_law_544 : decode b_Lw_law 544 = .ok (.iconst 1, 1) := by decide +kernel
theorem d_Lw_law_545 : decode b_Lw_law 545 = .ok (.iadd, 1) := by decide +kernel
theorem d_Lw_law_546 : decode b_Lw_law 546 = .ok (.iaload, 1) := by decide +kernel
theorem d_Lw_law_547 : decode b_Lw_law 547 = .ok (.aload_n 0, 1) := by decide +kernel
theorem d_Lw_law_548 : decode b_Lw_law 548 = .ok (.iload 4, 2) := by decide +kernel
theorem d_Lw_law_550 : decode b_Lw_law 550 = .ok (.iconst 2, 1) := by decide +kernel
theorem d_Lw_law_551 : decode b_Lw_law 551 = .ok (.iadd, 1) := by decide +kernel
theorem d_Lw_law_552 : decode b_Lw_law 552 = .ok (.iaload, 1) := by decide +kernel
theorem d_Lw_law_553 : decode b_Lw_law 553 = .ok (.aload_n 3, 1) := by decide +kernel
theorem d_Lw_law_554 : decode b_Lw_law 554 = .ok (.invokestatic 103, 3) := by decide +kernel
theorem d_Lw_law_557 : decode b_Lw_law 557 = .ok (.istore 5, 2) := by decide +kernel
theorem d_Lw_law_559 : decode b_Lw_law 559 = .ok (.aload_n 2, 1) := by decide +kernel
theorem d_Lw_law_560 : decode b_Lw_law 560 = .ok (.aload_n 0, 1) := by decide +kernel
theorem d_Lw_law_561 : decode b_Lw_law 561 = .ok (.iload 4, 2) := by decide +kernel
theorem d_Lw_law_563 : decode b_Lw_law 563 = .ok (.iconst 1, 1) := by decide +kernel
theorem d_Lw_law_564 : decode b_Lw_law 564 = .ok (.iadd, 1) := by decide +kernel
theorem d_Lw_law_565 : decode b_Lw_law 565 = .ok (.iaload, 1) := by decide +kernel
theorem d_Lw_law_566 : decode b_Lw_law 566 = .ok (.aload_n 0, 1) := by decide +kernel
theorem d_Lw_law_567 : decode b_Lw_law 567 = .ok (.iload 4, 2) := by decide +kernel
theorem d_Lw_law_569 : decode b_Lw_law 569 = .ok (.iconst 2, 1) := by decide +kernel
theorem d_Lw_law_570 : decode b_Lw_law 570 = .ok (.iadd, 1) := by decide +kernel
theorem d_Lw_law_571 : decode b_Lw_law 571 = .ok (.iaload, 1) := by decide +kernel
theorem d_Lw_law_572 : decode b_Lw_law 572 = .ok (.invokevirtual 105, 3) := by decide +kernel
theorem d_Lw_law_575 : decode b_Lw_law 575 = .ok (.istore 6, 2) := by decide +kernel
theorem d_Lw_law_577 : decode b_Lw_law 577 = .ok (.aload_n 2, 1) := by decide +kernel
theorem d_Lw_law_578 : decode b_Lw_law 578 = .ok (.invokevirtual 82, 3) := by decide +kernel
theorem d_Lw_law_581 : decode b_Lw_law 581 = .ok (.iload 5, 2) := by decide +kernel
theorem d_Lw_law_583 : decode b_Lw_law 583 = .ok (.if_icmp .eq 5, 3) := by decide +kernel
theorem d_Lw_law_586 : decode b_Lw_law 586 = .ok (.iconst 0, 1) := by decide +kernel
theorem d_Lw_law_587 : decode b_Lw_law 587 = .ok (.ireturn, 1) := by decide +kernel
theorem d_Lw_law_588 : decode b_Lw_law 588 = .ok (.iload 5, 2) := by decide +kernel
theorem d_Lw_law_590 : decode b_Lw_law 590 = .ok (.ifCond .ne 15, 3) := by decide +kernel
theorem d_Lw_law_593 : decode b_Lw_law 593 = .ok (.aload_n 3, 1) := by decide +kernel
theorem d_Lw_law_594 : decode b_Lw_law 594 = .ok (.iconst 0, 1) := by decide +kernel
theorem d_Lw_law_595 : decode b_Lw_law 595 = .ok (.laload, 1) := by decide +kernel
theorem d_Lw_law_596 : decode b_Lw_law 596 = .ok (.iload 6, 2) := by decide +kernel
theorem d_Lw_law_598 : decode b_Lw_law 598 = .ok (.i2l, 1) := by decide +kernel
theorem d_Lw_law_599 : decode b_Lw_law 599 = .ok (.lcmp, 1) := by decide +kernel
theorem d_Lw_law_600 : decode b_Lw_law 600 = .ok (.ifCond .eq 5, 3) := by decide +kernel
theorem d_Lw_law_603 : decode b_Lw_law 603 = .ok (.iconst 0, 1) := by decide +kernel
theorem d_Lw_law_604 : decode b_Lw_law 604 = .ok (.ireturn, 1) := by decide +kernel
theorem d_Lw_law_605 : decode b_Lw_law 605 = .ok (.goto 532, 3) := by decide +kernel
theorem d_Lw_law_608 : decode b_Lw_law 608 = .ok (.aload_n 1, 1) := by decide +kernel
theorem d_Lw_law_609 : decode b_Lw_law 609 = .ok (.aload_n 0, 1) := by decide +kernel
theorem d_Lw_law_610 : decode b_Lw_law 610 = .ok (.iload 4, 2) := by decide +kernel
theorem d_Lw_law_612 : decode b_Lw_law 612 = .ok (.iconst 1, 1) := by decide +kernel
theorem d_Lw_law_613 : decode b_Lw_law 613 = .ok (.iadd, 1) := by decide +kernel
theorem d_Lw_law_614 : decode b_Lw_law 614 = .ok (.iaload, 1) := by decide +kernel
theorem d_Lw_law_615 : decode b_Lw_law 615 = .ok (.aload_n 0, 1) := by decide +kernel
theorem d_Lw_law_616 : decode b_Lw_law 616 = .ok (.iload 4, 2) := by decide +kernel
theorem d_Lw_law_618 : decode b_Lw_law 618 = .ok (.iconst 2, 1) := by decide +kernel
theorem d_Lw_law_619 : decode b_Lw_law 619 = .ok (.iadd, 1) := by decide +kernel
theorem d_Lw_law_620 : decode b_Lw_law 620 = .ok (.iaload, 1) := by decide +kernel
theorem d_Lw_law_621 : decode b_Lw_law 621 = .ok (.aload_n 3, 1) := by decide +kernel
theorem d_Lw_law_622 : decode b_Lw_law 622 = .ok (.invokestatic 106, 3) := by decide +kernel
theorem d_Lw_law_625 : decode b_Lw_law 625 = .ok (.istore 5, 2) := by decide +kernel
theorem d_Lw_law_627 : decode b_Lw_law 627 = .ok (.aload_n 2, 1) := by decide +kernel
theorem d_Lw_law_628 : decode b_Lw_law 628 = .ok (.aload_n 0, 1) := by decide +kernel
theorem d_Lw_law_629 : decode b_Lw_law 629 = .ok (.iload 4, 2) := by decide +kernel
theorem d_Lw_law_631 : decode b_Lw_law 631 = .ok (.iconst 1, 1) := by decide +kernel
theorem d_Lw_law_632 : decode b_Lw_law 632 = .ok (.iadd, 1) := by decide +kernel
theorem d_Lw_law_633 : decode b_Lw_law 633 = .ok (.iaload, 1) := by decide +kernel
theorem d_Lw_law_634 : decode b_Lw_law 634 = .ok (.aload_n 0, 1) := by decide +kernel
theorem d_Lw_law_635 : decode b_Lw_law 635 = .ok (.iload 4, 2) := by decide +kernel
theorem d_Lw_law_637 : decode b_Lw_law 637 = .ok (.iconst 2, 1) := by decide +kernel
theorem d_Lw_law_638 : decode b_Lw_law 638 = .ok (.iadd, 1) := by decide +kernel
theorem d_Lw_law_639 : decode b_Lw_law 639 = .ok (.iaload, 1) := by decide +kernel
theorem d_Lw_law_640 : decode b_Lw_law 640 = .ok (.invokevirtual 108, 3) := by decide +kernel
theorem d_Lw_law_643 : decode b_Lw_law 643 = .ok (.istore 6, 2) := by decide +kernel
theorem d_Lw_law_645 : decode b_Lw_law 645 = .ok (.aload_n 2, 1) := by decide +kernel
theorem d_Lw_law_646 : decode b_Lw_law 646 = .ok (.invokevirtual 82, 3) := by decide +kernel
theorem d_Lw_law_649 : decode b_Lw_law 649 = .ok (.iload 5, 2) := by decide +kernel
theorem d_Lw_law_651 : decode b_Lw_law 651 = .ok (.if_icmp .eq 5, 3) := by decide +kernel
theorem d_Lw_law_654 : decode b_Lw_law 654 = .ok (.iconst 0, 1) := by decide +kernel
theorem d_Lw_law_655 : decode b_Lw_law 655 = .ok (.ireturn, 1) := by decide +kernel
theorem d_Lw_law_656 : decode b_Lw_law 656 = .ok (.iload 5, 2) := by decide +kernel
theorem d_Lw_law_658 : decode b_Lw_law 658 = .ok (.ifCond .ne 15, 3) := by decide +kernel
theorem d_Lw_law_661 : decode b_Lw_law 661 = .ok (.aload_n 3, 1) := by decide +kernel
theorem d_Lw_law_662 : decode b_Lw_law 662 = .ok (.iconst 0, 1) := by decide +kernel
theorem d_Lw_law_663 : decode b_Lw_law 663 = .ok (.laload, 1) := by decide +kernel
theorem d_Lw_law_664 : decode b_Lw_law 664 = .ok (.iload 6, 2) := by decide +kernel
theorem d_Lw_law_666 : decode b_Lw_law 666 = .ok (.i2l, 1) := by decide +kernel
theorem d_Lw_law_667 : decode b_Lw_law 667 = .ok (.lcmp, 1) := by decide +kernel
theorem d_Lw_law_668 : decode b_Lw_law 668 = .ok (.ifCond .eq 5, 3) := by decide +kernel
theorem d_Lw_law_671 : decode b_Lw_law 671 = .ok (.iconst 0, 1) := by decide +kernel
theorem d_Lw_law_672 : decode b_Lw_law 672 = .ok (.ireturn, 1) := by decide +kernel
theorem d_Lw_law_673 : decode b_Lw_law 673 = .ok (.goto 464, 3) := by decide +kernel
theorem d_Lw_law_676 : decode b_Lw_law 676 = .ok (.aload_n 1, 1) := by decide +kernel
theorem d_Lw_law_677 : decode b_Lw_law 677 = .ok (.aload_n 0, 1) := by decide +kernel
theorem d_Lw_law_678 : decode b_Lw_law 678 = .ok (.iload 4, 2) := by decide +kernel
theorem d_Lw_law_680 : decode b_Lw_law 680 = .ok (.iconst 1, 1) := by decide +kernel
theorem d_Lw_law_681 : decode b_Lw_law 681 = .ok (.iadd, 1) := by decide +kernel
theorem d_Lw_law_682 : decode b_Lw_law 682 = .ok (.iaload, 1) := by decide +kernel
theorem d_Lw_law_683 : decode b_Lw_law 683 = .ok (.aload_n 0, 1) := by decide +kernel
theorem d_Lw_law_684 : decode b_Lw_law 684 = .ok (.iload 4, 2) := by decide +kernel
theorem d_Lw_law_686 : decode b_Lw_law 686 = .ok (.iconst 2, 1) := by decide +kernel
theorem d_Lw_law_687 : decode b_Lw_law 687 = .ok (.iadd, 1) := by decide +kernel
theorem d_Lw_law_688 : decode b_Lw_law 688 = .ok (.iaload, 1) := by decide +kernel
theorem d_Lw_law_689 : decode b_Lw_law 689 = .ok (.invokestatic 109, 3) := by decide +kernel
theorem d_Lw_law_692 : decode b_Lw_law 692 = .ok (.istore 5, 2) := by decide +kernel
theorem d_Lw_law_694 : decode b_Lw_law 694 = .ok (.aload_n 2, 1) := by decide +kernel
theorem d_Lw_law_695 : decode b_Lw_law 695 = .ok (.aload_n 0, 1) := by decide +kernel
theorem d_Lw_law_696 : decode b_Lw_law 696 = .ok (.iload 4, 2) := by decide +kernel
theorem d_Lw_law_698 : decode b_Lw_law 698 = .ok (.iconst 1, 1) := by decide +kernel
theorem d_Lw_law_699 : decode b_Lw_law 699 = .ok (.iadd, 1) := by decide +kernel
theorem d_Lw_law_700 : decode b_Lw_law 700 = .ok (.iaload, 1) := by decide +kernel
theorem d_Lw_law_701 : decode b_Lw_law 701 = .ok (.aload_n 0, 1) := by decide +kernel
theorem d_Lw_law_702 : decode b_Lw_law 702 = .ok (.iload 4, 2) := by decide +kernel
theorem d_Lw_law_704 : decode b_Lw_law 704 = .ok (.iconst 2, 1) := by decide +kernel
theorem d_Lw_law_705 : decode b_Lw_law 705 = .ok (.iadd, 1) := by decide +kernel
theorem d_Lw_law_706 : decode b_Lw_law 706 = .ok (.iaload, 1) := by decide +kernel
theorem d_Lw_law_707 : decode b_Lw_law 707 = .ok (.invokevirtual 112, 3) := by decide +kernel
theorem d_Lw_law_710 : decode b_Lw_law 710 = .ok (.aload_n 2, 1) := by decide +kernel
theorem d_Lw_law_711 : decode b_Lw_law 711 = .ok (.invokevirtual 82, 3) := by decide +kernel
theorem d_Lw_law_714 : decode b_Lw_law 714 = .ok (.iload 5, 2) := by decide +kernel
theorem d_Lw_law_716 : decode b_Lw_law 716 = .ok (.if_icmp .eq 5, 3) := by decide +kernel
theorem d_Lw_law_719 : decode b_Lw_law 719 = .ok (.iconst 0, 1) := by decide +kernel
theorem d_Lw_law_720 : decode b_Lw_law 720 = .ok (.ireturn, 1) := by decide +kernel
theorem d_Lw_law_721 : decode b_Lw_law 721 = .ok (.goto 416, 3) := by decide +kernel
theorem d_Lw_law_724 : decode b_Lw_law 724 = .ok (.aload_n 1, 1) := by decide +kernel
theorem d_Lw_law_725 : decode b_Lw_law 725 = .ok (.aload_n 0, 1) := by decide +kernel
theorem d_Lw_law_726 : decode b_Lw_law 726 = .ok (.iload 4, 2) := by decide +kernel
theorem d_Lw_law_728 : decode b_Lw_law 728 = .ok (.iconst 1, 1) := by decide +kernel
theorem d_Lw_law_729 : decode b_Lw_law 729 = .ok (.iadd, 1) := by decide +kernel
theorem d_Lw_law_730 : decode b_Lw_law 730 = .ok (.iaload, 1) := by decide +kernel
theorem d_Lw_law_731 : decode b_Lw_law 731 = .ok (.aload_n 0, 1) := by decide +kernel
theorem d_Lw_law_732 : decode b_Lw_law 732 = .ok (.iload 4, 2) := by decide +kernel
theorem d_Lw_law_734 : decode b_Lw_law 734 = .ok (.iconst 2, 1) := by decide +kernel
theorem d_Lw_law_735 : decode b_Lw_law 735 = .ok (.iadd, 1) := by decide +kernel
theorem d_Lw_law_736 : decode b_Lw_law 736 = .ok (.iaload, 1) := by decide +kernel
theorem d_Lw_law_737 : decode b_Lw_law 737 = .ok (.aload_n 3, 1) := by decide +kernel
theorem d_Lw_law_738 : decode b_Lw_law 738 = .ok (.invokestatic 113, 3) := by decide +kernel
theorem d_Lw_law_741 : decode b_Lw_law 741 = .ok (.istore 5, 2) := by decide +kernel
theorem d_Lw_law_743 : decode b_Lw_law 743 = .ok (.aload_n 2, 1) := by decide +kernel
theorem d_Lw_law_744 : decode b_Lw_law 744 = .ok (.aload_n 0, 1) := by decide +kernel
theorem d_Lw_law_745 : decode b_Lw_law 745 = .ok (.iload 4, 2) := by decide +kernel
theorem d_Lw_law_747 : decode b_Lw_law 747 = .ok (.iconst 1, 1) := by decide +kernel
theorem d_Lw_law_748 : decode b_Lw_law 748 = .ok (.iadd, 1) := by decide +kernel
theorem d_Lw_law_749 : decode b_Lw_law 749 = .ok (.iaload, 1) := by decide +kernel
theorem d_Lw_law_750 : decode b_Lw_law 750 = .ok (.aload_n 0, 1) := by decide +kernel
theorem d_Lw_law_751 : decode b_Lw_law 751 = .ok (.iload 4, 2) := by decide +kernel
theorem d_Lw_law_753 : decode b_Lw_law 753 = .ok (.iconst 2, 1) := by decide +kernel
theorem d_Lw_law_754 : decode b_Lw_law 754 = .ok (.iadd, 1) := by decide +kernel
theorem d_Lw_law_755 : decode b_Lw_law 755 = .ok (.iaload, 1) := by decide +kernel
theorem d_Lw_law_756 : decode b_Lw_law 756 = .ok (.invokevirtual 115, 3) := by decide +kernel
theorem d_Lw_law_759 : decode b_Lw_law 759 = .ok (.istore 6, 2) := by decide +kernel
theorem d_Lw_law_761 : decode b_Lw_law 761 = .ok (.aload_n 2, 1) := by decide +kernel
theorem d_Lw_law_762 : decode b_Lw_law 762 = .ok (.invokevirtual 82, 3) := by decide +kernel
theorem d_Lw_law_765 : decode b_Lw_law 765 = .ok (.iload 5, 2) := by decide +kernel
theorem d_Lw_law_767 : decode b_Lw_law 767 = .ok (.if_icmp .eq 5, 3) := by decide +kernel
theorem d_Lw_law_770 : decode b_Lw_law 770 = .ok (.iconst 0, 1) := by decide +kernel
theorem d_Lw_law_771 : decode b_Lw_law 771 = .ok (.ireturn, 1) := by decide +kernel
theorem d_Lw_law_772 : decode b_Lw_law 772 = .ok (.iload 5, 2) := by decide +kernel
theorem d_Lw_law_774 : decode b_Lw_law 774 = .ok (.ifCond .ne 15, 3) := by decide +kernel
theorem d_Lw_law_777 : decode b_Lw_law 777 = .ok (.aload_n 3, 1) := by decide +kernel
theorem d_Lw_law_778 : decode b_Lw_law 778 = .ok (.iconst 0, 1) := by decide +kernel
theorem d_Lw_law_779 : decode b_Lw_law 779 = .ok (.laload, 1) := by decide +kernel
theorem d_Lw_law_780 : decode b_Lw_law 780 = .ok (.iload 6, 2) := by decide +kernel
theorem d_Lw_law_782 : decode b_Lw_law 782 = .ok (.i2l, 1) := by decide +kernel
theorem d_Lw_law_783 : decode b_Lw_law 783 = .ok (.lcmp, 1) := by decide +kernel
theorem d_Lw_law_784 : decode b_Lw_law 784 = .ok (.ifCond .eq 5, 3) := by decide +kernel
theorem d_Lw_law_787 : decode b_Lw_law 787 = .ok (.iconst 0, 1) := by decide +kernel
theorem d_Lw_law_788 : decode b_Lw_law 788 = .ok (.ireturn, 1) := by decide +kernel
theorem d_Lw_law_789 : decode b_Lw_law 789 = .ok (.goto 348, 3) := by decide +kernel
theorem d_Lw_law_792 : decode b_Lw_law 792 = .ok (.aload_n 1, 1) := by decide +kernel
theorem d_Lw_law_793 : decode b_Lw_law 793 = .ok (.aload_n 0, 1) := by decide +kernel
theorem d_Lw_law_794 : decode b_Lw_law 794 = .ok (.iload 4, 2) := by decide +kernel
theorem d_Lw_law_796 : decode b_Lw_law 796 = .ok (.iconst 1, 1) := by decide +kernel
theorem d_Lw_law_797 : decode b_Lw_law 797 = .ok (.iadd, 1) := by decide +kernel
theorem d_Lw_law_798 : decode b_Lw_law 798 = .ok (.iaload, 1) := by decide +kernel
theorem d_Lw_law_799 : decode b_Lw_law 799 = .ok (.aload_n 0, 1) := by decide +kernel
theorem d_Lw_law_800 : decode b_Lw_law 800 = .ok (.iload 4, 2) := by decide +kernel
theorem d_Lw_law_802 : decode b_Lw_law 802 = .ok (.iconst 2, 1) := by decide +kernel
theorem d_Lw_law_803 : decode b_Lw_law 803 = .ok (.iadd, 1) := by decide +kernel
theorem d_Lw_law_804 : decode b_Lw_law 804 = .ok (.iaload, 1) := by decide +kernel
theorem d_Lw_law_805 : decode b_Lw_law 805 = .ok (.aload_n 0, 1) := by decide +kernel
theorem d_Lw_law_806 : decode b_Lw_law 806 = .ok (.iload 4, 2) := by decide +kernel
theorem d_Lw_law_808 : decode b_Lw_law 808 = .ok (.iconst 3, 1) := by decide +kernel
theorem d_Lw_law_809 : decode b_Lw_law 809 = .ok (.iadd, 1) := by decide +kernel
theorem d_Lw_law_810 : decode b_Lw_law 810 = .ok (.iaload, 1) := by decide +kernel
theorem d_Lw_law_811 : decode b_Lw_law 811 = .ok (.aload_n 0, 1) := by decide +kernel
theorem d_Lw_law_812 : decode b_Lw_law 812 = .ok (.iload 4, 2) := by decide +kernel
theorem d_Lw_law_814 : decode b_Lw_law 814 = .ok (.iconst 4, 1) := by decide +kernel
theorem d_Lw_law_815 : decode b_Lw_law 815 = .ok (.iadd, 1) := by decide +kernel
theorem d_Lw_law_816 : decode b_Lw_law 816 = .ok (.iaload, 1) := by decide +kernel
theorem d_Lw_law_817 : decode b_Lw_law 817 = .ok (.aload_n 3, 1) := by decide +kernel
theorem d_Lw_law_818 : decode b_Lw_law 818 = .ok (.invokestatic 116, 3) := by decide +kernel
theorem d_Lw_law_821 : decode b_Lw_law 821 = .ok (.istore 5, 2) := by decide +kernel
theorem d_Lw_law_823 : decode b_Lw_law 823 = .ok (.aload_n 2, 1) := by decide +kernel
theorem d_Lw_law_824 : decode b_Lw_law 824 = .ok (.aload_n 0, 1) := by decide +kernel
theorem d_Lw_law_825 : decode b_Lw_law 825 = .ok (.iload 4, 2) := by decide +kernel
theorem d_Lw_law_827 : decode b_Lw_law 827 = .ok (.iconst 1, 1) := by decide +kernel
theorem d_Lw_law_828 : decode b_Lw_law 828 = .ok (.iadd, 1) := by decide +kernel
theorem d_Lw_law_829 : decode b_Lw_law 829 = .ok (.iaload, 1) := by decide +kernel
theorem d_Lw_law_830 : decode b_Lw_law 830 = .ok (.aload_n 0, 1) := by decide +kernel
theorem d_Lw_law_831 : decode b_Lw_law 831 = .ok (.iload 4, 2) := by decide +kernel
theorem d_Lw_law_833 : decode b_Lw_law 833 = .ok (.iconst 2, 1) := by decide +kernel
theorem d_Lw_law_834 : decode b_Lw_law 834 = .ok (.iadd, 1) := by decide +kernel
theorem d_Lw_law_835 : decode b_Lw_law 835 = .ok (.iaload, 1) := by decide +kernel
theorem d_Lw_law_836 : decode b_Lw_law 836 = .ok (.aload_n 0, 1) := by decide +kernel
theorem d_Lw_law_837 : decode b_Lw_law 837 = .ok (.iload 4, 2) := by decide +kernel
theorem d_Lw_law_839 : decode b_Lw_law 839 = .ok (.iconst 3, 1) := by decide +kernel
theorem d_Lw_law_840 : decode b_Lw_law 840 = .ok (.iadd, 1) := by decide +kernel
theorem d_Lw_law_841 : decode b_Lw_law 841 = .ok (.iaload, 1) := by decide +kernel
theorem d_Lw_law_842 : decode b_Lw_law 842 = .ok (.aload_n 0, 1) := by decide +kernel
theorem d_Lw_law_843 : decode b_Lw_law 843 = .ok (.iload 4, 2) := by decide +kernel
theorem d_Lw_law_845 : decode b_Lw_law 845 = .ok (.iconst 4, 1) := by decide +kernel
theorem d_Lw_law_846 : decode b_Lw_law 846 = .ok (.iadd, 1) := by decide +kernel
theorem d_Lw_law_847 : decode b_Lw_law 847 = .ok (.iaload, 1) := by decide +kernel
theorem d_Lw_law_848 : decode b_Lw_law 848 = .ok (.invokevirtual 119, 3) := by decide +kernel
theorem d_Lw_law_851 : decode b_Lw_law 851 = .ok (.istore 6, 2) := by decide +kernel
theorem d_Lw_law_853 : decode b_Lw_law 853 = .ok (.aload_n 2, 1) := by decide +kernel
theorem d_Lw_law_854 : decode b_Lw_law 854 = .ok (.invokevirtual 82, 3) := by decide +kernel
theorem d_Lw_law_857 : decode b_Lw_law 857 = .ok (.iload 5, 2) := by decide +kernel
theorem d_Lw_law_859 : decode b_Lw_law 859 = .ok (.if_icmp .eq 5, 3) := by decide +kernel
theorem d_Lw_law_862 : decode b_Lw_law 862 = .ok (.iconst 0, 1) := by decide +kernel
theorem d_Lw_law_863 : decode b_Lw_law 863 = .ok (.ireturn, 1) := by decide +kernel
theorem d_Lw_law_864 : decode b_Lw_law 864 = .ok (.iload 5, 2) := by decide +kernel
theorem d_Lw_law_866 : decode b_Lw_law 866 = .ok (.ifCond .ne 15, 3) := by decide +kernel
theorem d_Lw_law_869 : decode b_Lw_law 869 = .ok (.aload_n 3, 1) := by decide +kernel
theorem d_Lw_law_870 : decode b_Lw_law 870 = .ok (.iconst 0, 1) := by decide +kernel
theorem d_Lw_law_871 : decode b_Lw_law 871 = .ok (.laload, 1) := by decide +kernel
theorem d_Lw_law_872 : decode b_Lw_law 872 = .ok (.iload 6, 2) := by decide +kernel
theorem d_Lw_law_874 : decode b_Lw_law 874 = .ok (.i2l, 1) := by decide +kernel
theorem d_Lw_law_875 : decode b_Lw_law 875 = .ok (.lcmp, 1) := by decide +kernel
theorem d_Lw_law_876 : decode b_Lw_law 876 = .ok (.ifCond .eq 5, 3) := by decide +kernel
theorem d_Lw_law_879 : decode b_Lw_law 879 = .ok (.iconst 0, 1) := by decide +kernel
theorem d_Lw_law_880 : decode b_Lw_law 880 = .ok (.ireturn, 1) := by decide +kernel
theorem d_Lw_law_881 : decode b_Lw_law 881 = .ok (.goto 256, 3) := by decide +kernel
theorem d_Lw_law_884 : decode b_Lw_law 884 = .ok (.aload_n 1, 1) := by decide +kernel
theorem d_Lw_law_885 : decode b_Lw_law 885 = .ok (.aload_n 0, 1) := by decide +kernel
theorem d_Lw_law_886 : decode b_Lw_law 886 = .ok (.iload 4, 2) := by decide +kernel
theorem d_Lw_law_888 : decode b_Lw_law 888 = .ok (.iconst 1, 1) := by decide +kernel
theorem d_Lw_law_889 : decode b_Lw_law 889 = .ok (.iadd, 1) := by decide +kernel
theorem d_Lw_law_890 : decode b_Lw_law 890 = .ok (.iaload, 1) := by decide +kernel
theorem d_Lw_law_891 : decode b_Lw_law 891 = .ok (.aload_n 0, 1) := by decide +kernel
theorem d_Lw_law_892 : decode b_Lw_law 892 = .ok (.iload 4, 2) := by decide +kernel
theorem d_Lw_law_894 : decode b_Lw_law 894 = .ok (.iconst 2, 1) := by decide +kernel
theorem d_Lw_law_895 : decode b_Lw_law 895 = .ok (.iadd, 1) := by decide +kernel
theorem d_Lw_law_896 : decode b_Lw_law 896 = .ok (.iaload, 1) := by decide +kernel
theorem d_Lw_law_897 : decode b_Lw_law 897 = .ok (.aload_n 3, 1) := by decide +kernel
theorem d_Lw_law_898 : decode b_Lw_law 898 = .ok (.invokestatic 120, 3) := by decide +kernel
theorem d_Lw_law_901 : decode b_Lw_law 901 = .ok (.istore 5, 2) := by decide +kernel
theorem d_Lw_law_903 : decode b_Lw_law 903 = .ok (.aload_n 2, 1) := by decide +kernel
theorem d_Lw_law_904 : decode b_Lw_law 904 = .ok (.aload_n 0, 1) := by decide +kernel
theorem d_Lw_law_905 : decode b_Lw_law 905 = .ok (.iload 4, 2) := by decide +kernel
theorem d_Lw_law_907 : decode b_Lw_law 907 = .ok (.iconst 1, 1) := by decide +kernel
theorem d_Lw_law_908 : decode b_Lw_law 908 = .ok (.iadd, 1) := by decide +kernel
theorem d_Lw_law_909 : decode b_Lw_law 909 = .ok (.iaload, 1) := by decide +kernel
theorem d_Lw_law_910 : decode b_Lw_law 910 = .ok (.aload_n 0, 1) := by decide +kernel
theorem d_Lw_law_911 : decode b_Lw_law 911 = .ok (.iload 4, 2) := by decide +kernel
theorem d_Lw_law_913 : decode b_Lw_law 913 = .ok (.iconst 2, 1) := by decide +kernel
theorem d_Lw_law_914 : decode b_Lw_law 914 = .ok (.iadd, 1) := by decide +kernel
theorem d_Lw_law_915 : decode b_Lw_law 915 = .ok (.iaload, 1) := by decide +kernel
theorem d_Lw_law_916 : decode b_Lw_law 916 = .ok (.invokevirtual 122, 3) := by decide +kernel
theorem d_Lw_law_919 : decode b_Lw_law 919 = .ok (.istore 6, 2) := by decide +kernel
theorem d_Lw_law_921 : decode b_Lw_law 921 = .ok (.aload_n 2, 1) := by decide +kernel
theorem d_Lw_law_922 : decode b_Lw_law 922 = .ok (.invokevirtual 82, 3) := by decide +kernel
theorem d_Lw_law_925 : decode b_Lw_law 925 = .ok (.iload 5, 2) := by decide +kernel
theorem d_Lw_law_927 : decode b_Lw_law 927 = .ok (.if_icmp .eq 5, 3) := by decide +kernel
theorem d_Lw_law_930 : decode b_Lw_law 930 = .ok (.iconst 0, 1) := by decide +kernel
theorem d_Lw_law_931 : decode b_Lw_law 931 = .ok (.ireturn, 1) := by decide +kernel
theorem d_Lw_law_932 : decode b_Lw_law 932 = .ok (.iload 5, 2) := by decide +kernel
theorem d_Lw_law_934 : decode b_Lw_law 934 = .ok (.ifCond .ne 15, 3) := by decide +kernel
theorem d_Lw_law_937 : decode b_Lw_law 937 = .ok (.aload_n 3, 1) := by decide +kernel
theorem d_Lw_law_938 : decode b_Lw_law 938 = .ok (.iconst 0, 1) := by decide +kernel
theorem d_Lw_law_939 : decode b_Lw_law 939 = .ok (.laload, 1) := by decide +kernel
theorem d_Lw_law_940 : decode b_Lw_law 940 = .ok (.iload 6, 2) := by decide +kernel
theorem d_Lw_law_942 : decode b_Lw_law 942 = .ok (.i2l, 1) := by decide +kernel
theorem d_Lw_law_943 : decode b_Lw_law 943 = .ok (.lcmp, 1) := by decide +kernel
theorem d_Lw_law_944 : decode b_Lw_law 944 = .ok (.ifCond .eq 5, 3) := by decide +kernel
theorem d_Lw_law_947 : decode b_Lw_law 947 = .ok (.iconst 0, 1) := by decide +kernel
theorem d_Lw_law_948 : decode b_Lw_law 948 = .ok (.ireturn, 1) := by decide +kernel
theorem d_Lw_law_949 : decode b_Lw_law 949 = .ok (.goto 188, 3) := by decide +kernel
theorem d_Lw_law_952 : decode b_Lw_law 952 = .ok (.aload_n 1, 1) := by decide +kernel
theorem d_Lw_law_953 : decode b_Lw_law 953 = .ok (.aload_n 0, 1) := by decide +kernel
theorem d_Lw_law_954 : decode b_Lw_law 954 = .ok (.iload 4, 2) := by decide +kernel
theorem d_Lw_law_956 : decode b_Lw_law 956 = .ok (.iconst 1, 1) := by decide +kernel
theorem d_Lw_law_957 : decode b_Lw_law 957 = .ok (.iadd, 1) := by decide +kernel
theorem d_Lw_law_958 : decode b_Lw_law 958 = .ok (.iaload, 1) := by decide +kernel
theorem d_Lw_law_959 : decode b_Lw_law 959 = .ok (.aload_n 0, 1) := by decide +kernel
theorem d_Lw_law_960 : decode b_Lw_law 960 = .ok (.iload 4, 2) := by decide +kernel
theorem d_Lw_law_962 : decode b_Lw_law 962 = .ok (.iconst 2, 1) := by decide +kernel
theorem d_Lw_law_963 : decode b_Lw_law 963 = .ok (.iadd, 1) := by decide +kernel
theorem d_Lw_law_964 : decode b_Lw_law 964 = .ok (.iaload, 1) := by decide +kernel
theorem d_Lw_law_965 : decode b_Lw_law 965 = .ok (.aload_n 0, 1) := by decide +kernel
theorem d_Lw_law_966 : decode b_Lw_law 966 = .ok (.iload 4, 2) := by decide +kernel
theorem d_Lw_law_968 : decode b_Lw_law 968 = .ok (.iconst 3, 1) := by decide +kernel
theorem d_Lw_law_969 : decode b_Lw_law 969 = .ok (.iadd, 1) := by decide +kernel
theorem d_Lw_law_970 : decode b_Lw_law 970 = .ok (.iaload, 1) := by decide +kernel
theorem d_Lw_law_971 : decode b_Lw_law 971 = .ok (.aload_n 3, 1) := by decide +kernel
theorem d_Lw_law_972 : decode b_Lw_law 972 = .ok (.invokestatic 123, 3) := by decide +kernel
theorem d_Lw_law_975 : decode b_Lw_law 975 = .ok (.istore 5, 2) := by decide +kernel
theorem d_Lw_law_977 : decode b_Lw_law 977 = .ok (.aload_n 2, 1) := by decide +kernel
theorem d_Lw_law_978 : decode b_Lw_law 978 = .ok (.aload_n 0, 1) := by decide +kernel
theorem d_Lw_law_979 : decode b_Lw_law 979 = .ok (.iload 4, 2) := by decide +kernel
theorem d_Lw_law_981 : decode b_Lw_law 981 = .ok (.iconst 1, 1) := by decide +kernel
theorem d_Lw_law_982 : decode b_Lw_law 982 = .ok (.iadd, 1) := by decide +kernel
theorem d_Lw_law_983 : decode b_Lw_law 983 = .ok (.iaload, 1) := by decide +kernel
theorem d_Lw_law_984 : decode b_Lw_law 984 = .ok (.aload_n 0, 1) := by decide +kernel
theorem d_Lw_law_985 : decode b_Lw_law 985 = .ok (.iload 4, 2) := by decide +kernel
theorem d_Lw_law_987 : decode b_Lw_law 987 = .ok (.iconst 2, 1) := by decide +kernel
theorem d_Lw_law_988 : decode b_Lw_law 988 = .ok (.iadd, 1) := by decide +kernel
theorem d_Lw_law_989 : decode b_Lw_law 989 = .ok (.iaload, 1) := by decide +kernel
theorem d_Lw_law_990 : decode b_Lw_law 990 = .ok (.aload_n 0, 1) := by decide +kernel
theorem d_Lw_law_991 : decode b_Lw_law 991 = .ok (.iload 4, 2) := by decide +kernel
theorem d_Lw_law_993 : decode b_Lw_law 993 = .ok (.iconst 3, 1) := by decide +kernel
theorem d_Lw_law_994 : decode b_Lw_law 994 = .ok (.iadd, 1) := by decide +kernel
theorem d_Lw_law_995 : decode b_Lw_law 995 = .ok (.iaload, 1) := by decide +kernel
theorem d_Lw_law_996 : decode b_Lw_law 996 = .ok (.invokevirtual 126, 3) := by decide +kernel
theorem d_Lw_law_999 : decode b_Lw_law 999 = .ok (.istore 6, 2) := by decide +kernel
theorem d_Lw_law_1001 : decode b_Lw_law 1001 = .ok (.aload_n 2, 1) := by decide +kernel
theorem d_Lw_law_1002 : decode b_Lw_law 1002 = .ok (.invokevirtual 82, 3) := by decide +kernel
theorem d_Lw_law_1005 : decode b_Lw_law 1005 = .ok (.iload 5, 2) := by decide +kernel
theorem d_Lw_law_1007 : decode b_Lw_law 1007 = .ok (.if_icmp .eq 5, 3) := by decide +kernel
theorem d_Lw_law_1010 : decode b_Lw_law 1010 = .ok (.iconst 0, 1) := by decide +kernel
theorem d_Lw_law_1011 : decode b_Lw_law 1011 = .ok (.ireturn, 1) := by decide +kernel
theorem d_Lw_law_1012 : decode b_Lw_law 1012 = .ok (.iload 5, 2) := by decide +kernel
theorem d_Lw_law_1014 : decode b_Lw_law 1014 = .ok (.ifCond .ne 15, 3) := by decide +kernel
theorem d_Lw_law_1017 : decode b_Lw_law 1017 = .ok (.aload_n 3, 1) := by decide +kernel
theorem d_Lw_law_1018 : decode b_Lw_law 1018 = .ok (.iconst 0, 1) := by decide +kernel
theorem d_Lw_law_1019 : decode b_Lw_law 1019 = .ok (.laload, 1) := by decide +kernel
theorem d_Lw_law_1020 : decode b_Lw_law 1020 = .ok (.iload 6, 2) := by decide +kernel
theorem d_Lw_law_1022 : decode b_Lw_law 1022 = .ok (.i2l, 1) := by decide +kernel
theorem d_Lw_law_1023 : decode b_Lw_law 1023 = .ok (.lcmp, 1) := by decide +kernel
theorem d_Lw_law_1024 : decode b_Lw_law 1024 = .ok (.ifCond .eq 5, 3) := by decide +kernel
theorem d_Lw_law_1027 : decode b_Lw_law 1027 = .ok (.iconst 0, 1) := by decide +kernel
theorem d_Lw_law_1028 : decode b_Lw_law 1028 = .ok (.ireturn, 1) := by decide +kernel
theorem d_Lw_law_1029 : decode b_Lw_law 1029 = .ok (.goto 108, 3) := by decide +kernel
theorem d_Lw_law_1032 : decode b_Lw_law 1032 = .ok (.aload_n 1, 1) := by decide +kernel
theorem d_Lw_law_1033 : decode b_Lw_law 1033 = .ok (.aload_n 0, 1) := by decide +kernel
theorem d_Lw_law_1034 : decode b_Lw_law 1034 = .ok (.iload 4, 2) := by decide +kernel
theorem d_Lw_law_1036 : decode b_Lw_law 1036 = .ok (.iconst 1, 1) := by decide +kernel
theorem d_Lw_law_1037 : decode b_Lw_law 1037 = .ok (.iadd, 1) := by decide +kernel
theorem d_Lw_law_1038 : decode b_Lw_law 1038 = .ok (.iaload, 1) := by decide +kernel
theorem d_Lw_law_1039 : decode b_Lw_law 1039 = .ok (.aload_n 0, 1) := by decide +kernel
theorem d_Lw_law_1040 : decode b_Lw_law 1040 = .ok (.iload 4, 2) := by decide +kernel
theorem d_Lw_law_1042 : decode b_Lw_law 1042 = .ok (.iconst 2, 1) := by decide +kernel
theorem d_Lw_law_1043 : decode b_Lw_law 1043 = .ok (.iadd, 1) := by decide +kernel
theorem d_Lw_law_1044 : decode b_Lw_law 1044 = .ok (.iaload, 1) := by decide +kernel
theorem d_Lw_law_1045 : decode b_Lw_law 1045 = .ok (.aload_n 0, 1) := by decide +kernel
theorem d_Lw_law_1046 : decode b_Lw_law 1046 = .ok (.iload 4, 2) := by decide +kernel
theorem d_Lw_law_1048 : decode b_Lw_law 1048 = .ok (.iconst 3, 1) := by decide +kernel
theorem d_Lw_law_1049 : decode b_Lw_law 1049 = .ok (.iadd, 1) := by decide +kernel
theorem d_Lw_law_1050 : decode b_Lw_law 1050 = .ok (.iaload, 1) := by decide +kernel
theorem d_Lw_law_1051 : decode b_Lw_law 1051 = .ok (.aload_n 3, 1) := by decide +kernel
theorem d_Lw_law_1052 : decode b_Lw_law 1052 = .ok (.invokestatic 127, 3) := by decide +kernel
theorem d_Lw_law_1055 : decode b_Lw_law 1055 = .ok (.istore 5, 2) := by decide +kernel
theorem d_Lw_law_1057 : decode b_Lw_law 1057 = .ok (.aload_n 2, 1) := by decide +kernel
theorem d_Lw_law_1058 : decode b_Lw_law 1058 = .ok (.aload_n 0, 1) := by decide +kernel
theorem d_Lw_law_1059 : decode b_Lw_law 1059 = .ok (.iload 4, 2) := by decide +kernel
theorem d_Lw_law_1061 : decode b_Lw_law 1061 = .ok (.iconst 1, 1) := by decide +kernel
theorem d_Lw_law_1062 : decode b_Lw_law 1062 = .ok (.iadd, 1) := by decide +kernel
theorem d_Lw_law_1063 : decode b_Lw_law 1063 = .ok (.iaload, 1) := by decide +kernel
theorem d_Lw_law_1064 : decode b_Lw_law 1064 = .ok (.aload_n 0, 1) := by decide +kernel
theorem d_Lw_law_1065 : decode b_Lw_law 1065 = .ok (.iload 4, 2) := by decide +kernel
theorem d_Lw_law_1067 : decode b_Lw_law 1067 = .ok (.iconst 2, 1) := by decide +kernel
theorem d_Lw_law_1068 : decode b_Lw_law 1068 = .ok (.iadd, 1) := by decide +kernel
theorem d_Lw_law_1069 : decode b_Lw_law 1069 = .ok (.iaload, 1) := by decide +kernel
theorem d_Lw_law_1070 : decode b_Lw_law 1070 = .ok (.aload_n 0, 1) := by decide +kernel
theorem d_Lw_law_1071 : decode b_Lw_law 1071 = .ok (.iload 4, 2) := by decide +kernel
theorem d_Lw_law_1073 : decode b_Lw_law 1073 = .ok (.iconst 3, 1) := by decide +kernel
theorem d_Lw_law_1074 : decode b_Lw_law 1074 = .ok (.iadd, 1) := by decide +kernel
theorem d_Lw_law_1075 : decode b_Lw_law 1075 = .ok (.iaload, 1) := by decide +kernel
theorem d_Lw_law_1076 : decode b_Lw_law 1076 = .ok (.invokevirtual 129, 3) := by decide +kernel
theorem d_Lw_law_1079 : decode b_Lw_law 1079 = .ok (.istore 6, 2) := by decide +kernel
theorem d_Lw_law_1081 : decode b_Lw_law 1081 = .ok (.aload_n 2, 1) := by decide +kernel
theorem d_Lw_law_1082 : decode b_Lw_law 1082 = .ok (.invokevirtual 82, 3) := by decide +kernel
theorem d_Lw_law_1085 : decode b_Lw_law 1085 = .ok (.iload 5, 2) := by decide +kernel
theorem d_Lw_law_1087 : decode b_Lw_law 1087 = .ok (.if_icmp .eq 5, 3) := by decide +kernel
theorem d_Lw_law_1090 : decode b_Lw_law 1090 = .ok (.iconst 0, 1) := by decide +kernel
theorem d_Lw_law_1091 : decode b_Lw_law 1091 = .ok (.ireturn, 1) := by decide +kernel
theorem d_Lw_law_1092 : decode b_Lw_law 1092 = .ok (.iload 5, 2) := by decide +kernel
theorem d_Lw_law_1094 : decode b_Lw_law 1094 = .ok (.ifCond .ne 15, 3) := by decide +kernel
theorem d_Lw_law_1097 : decode b_Lw_law 1097 = .ok (.aload_n 3, 1) := by decide +kernel
theorem d_Lw_law_1098 : decode b_Lw_law 1098 = .ok (.iconst 0, 1) := by decide +kernel
theorem d_Lw_law_1099 : decode b_Lw_law 1099 = .ok (.laload, 1) := by decide +kernel
theorem d_Lw_law_1100 : decode b_Lw_law 1100 = .ok (.iload 6, 2) := by decide +kernel
theorem d_Lw_law_1102 : decode b_Lw_law 1102 = .ok (.i2l, 1) := by decide +kernel
theorem d_Lw_law_1103 : decode b_Lw_law 1103 = .ok (.lcmp, 1) := by decide +kernel
theorem d_Lw_law_1104 : decode b_Lw_law 1104 = .ok (.ifCond .eq 5, 3) := by decide +kernel
theorem d_Lw_law_1107 : decode b_Lw_law 1107 = .ok (.iconst 0, 1) := by decide +kernel
theorem d_Lw_law_1108 : decode b_Lw_law 1108 = .ok (.ireturn, 1) := by decide +kernel
theorem d_Lw_law_1109 : decode b_Lw_law 1109 = .ok (.goto 28, 3) := by decide +kernel
theorem d_Lw_law_1112 : decode b_Lw_law 1112 = .ok (.aload_n 1, 1) := by decide +kernel
theorem d_Lw_law_1113 : decode b_Lw_law 1113 = .ok (.aload_n 0, 1) := by decide +kernel
theorem d_Lw_law_1114 : decode b_Lw_law 1114 = .ok (.iload 4, 2) := by decide +kernel
theorem d_Lw_law_1116 : decode b_Lw_law 1116 = .ok (.iconst 1, 1) := by decide +kernel
theorem d_Lw_law_1117 : decode b_Lw_law 1117 = .ok (.iadd, 1) := by decide +kernel
theorem d_Lw_law_1118 : decode b_Lw_law 1118 = .ok (.iaload, 1) := by decide +kernel
theorem d_Lw_law_1119 : decode b_Lw_law 1119 = .ok (.invokevirtual 130, 3) := by decide +kernel
theorem d_Lw_law_1122 : decode b_Lw_law 1122 = .ok (.aload_n 2, 1) := by decide +kernel
theorem d_Lw_law_1123 : decode b_Lw_law 1123 = .ok (.aload_n 0, 1) := by decide +kernel
theorem d_Lw_law_1124 : decode b_Lw_law 1124 = .ok (.iload 4, 2) := by decide +kernel
theorem d_Lw_law_1126 : decode b_Lw_law 1126 = .ok (.iconst 1, 1) := by decide +kernel
theorem d_Lw_law_1127 : decode b_Lw_law 1127 = .ok (.iadd, 1) := by decide +kernel
theorem d_Lw_law_1128 : decode b_Lw_law 1128 = .ok (.iaload, 1) := by decide +kernel
theorem d_Lw_law_1129 : decode b_Lw_law 1129 = .ok (.invokevirtual 133, 3) := by decide +kernel
theorem d_Lw_law_1132 : decode b_Lw_law 1132 = .ok (.if_icmp .eq 5, 3) := by decide +kernel
theorem d_Lw_law_1135 : decode b_Lw_law 1135 = .ok (.iconst 0, 1) := by decide +kernel
theorem d_Lw_law_1136 : decode b_Lw_law 1136 = .ok (.ireturn, 1) := by decide +kernel
theorem d_Lw_law_1137 : decode b_Lw_law 1137 = .ok (.iinc 4 6, 3) := by decide +kernel
theorem d_Lw_law_1140 : decode b_Lw_law 1140 = .ok (.goto (-1087), 3) := by decide +kernel
theorem d_Lw_law_1143 : decode b_Lw_law 1143 = .ok (.iconst 1, 1) := by decide +kernel
theorem d_Lw_law_1144 : decode b_Lw_law 1144 = .ok (.ireturn, 1) := by decide +kernel
