theorem dL_isPolicy_0 : decode cL_isPolicy 0 = .ok (.aload 4, 2) := by decide +kernel
theorem dL_isPolicy_2 : decode cL_isPolicy 2 = .ok (.iconst 0, 1) := by decide +kernel
theorem dL_isPolicy_3 : decode cL_isPolicy 3 = .ok (.iaload, 1) := by decide +kernel
theorem dL_isPolicy_4 : decode cL_isPolicy 4 = .ok (.iconst 2, 1) := by decide +kernel
theorem dL_isPolicy_5 : decode cL_isPolicy 5 = .ok (.if_icmp .ge 7, 3) := by decide +kernel
theorem dL_isPolicy_8 : decode cL_isPolicy 8 = .ok (.iconst 1, 1) := by decide +kernel
theorem dL_isPolicy_9 : decode cL_isPolicy 9 = .ok (.goto 4, 3) := by decide +kernel
theorem dL_isPolicy_12 : decode cL_isPolicy 12 = .ok (.iconst 0, 1) := by decide +kernel
theorem dL_isPolicy_13 : decode cL_isPolicy 13 = .ok (.istore 8, 2) := by decide +kernel
theorem dL_isPolicy_15 : decode cL_isPolicy 15 = .ok (.aload_n 0, 1) := by decide +kernel
theorem dL_isPolicy_16 : decode cL_isPolicy 16 = .ok (.invokevirtual 74, 3) := by decide +kernel
theorem dL_isPolicy_19 : decode cL_isPolicy 19 = .ok (.aload_n 1, 1) := by decide +kernel
theorem dL_isPolicy_20 : decode cL_isPolicy 20 = .ok (.iconst 3, 1) := by decide +kernel
theorem dL_isPolicy_21 : decode cL_isPolicy 21 = .ok (.iaload, 1) := by decide +kernel
theorem dL_isPolicy_22 : decode cL_isPolicy 22 = .ok (.if_icmp .ne 148, 3) := by decide +kernel
theorem dL_isPolicy_25 : decode cL_isPolicy 25 = .ok (.aload_n 0, 1) := by decide +kernel
theorem dL_isPolicy_26 : decode cL_isPolicy 26 = .ok (.invokevirtual 78, 3) := by decide +kernel
theorem dL_isPolicy_29 : decode cL_isPolicy 29 = .ok (.aload_n 1, 1) := by decide +kernel
theorem dL_isPolicy_30 : decode cL_isPolicy 30 = .ok (.iconst 4, 1) := by decide +kernel
theorem dL_isPolicy_31 : decode cL_isPolicy 31 = .ok (.iaload, 1) := by decide +kernel
theorem dL_isPolicy_32 : decode cL_isPolicy 32 = .ok (.if_icmp .ne 138, 3) := by decide +kernel
theorem dL_isPolicy_35 : decode cL_isPolicy 35 = .ok (.aload_n 0, 1) := by decide +kernel
theorem dL_isPolicy_36 : decode cL_isPolicy 36 = .ok (.invokevirtual 80, 3) := by decide +kernel
theorem dL_isPolicy_39 : decode cL_isPolicy 39 = .ok (.aload 4, 2) := by decide +kernel
theorem dL_isPolicy_41 : decode cL_isPolicy 41 = .ok (.iconst 0, 1) := by decide +kernel
theorem dL_isPolicy_42 : decode cL_isPolicy 42 = .ok (.iaload, 1) := by decide +kernel
theorem dL_isPolicy_43 : decode cL_isPolicy 43 = .ok (.if_icmp .ne 127, 3) := by decide +kernel
theorem dL_isPolicy_46 : decode cL_isPolicy 46 = .ok (.aload_n 0, 1) := by decide +kernel
theorem dL_isPolicy_47 : decode cL_isPolicy 47 = .ok (.invokevirtual 83, 3) := by decide +kernel
theorem dL_isPolicy_50 : decode cL_isPolicy 50 = .ok (.aload 4, 2) := by decide +kernel
theorem dL_isPolicy_52 : decode cL_isPolicy 52 = .ok (.iconst 1, 1) := by decide +kernel
theorem dL_isPolicy_53 : decode cL_isPolicy 53 = .ok (.iaload, 1) := by decide +kernel
theorem dL_isPolicy_54 : decode cL_isPolicy 54 = .ok (.if_icmp .ne 116, 3) := by decide +kernel
theorem dL_isPolicy_57 : decode cL_isPolicy 57 = .ok (.aload_n 0, 1) := by decide +kernel
theorem dL_isPolicy_58 : decode cL_isPolicy 58 = .ok (.invokevirtual 86, 3) := by decide +kernel
theorem dL_isPolicy_61 : decode cL_isPolicy 61 = .ok (.aload 4, 2) := by decide +kernel
theorem dL_isPolicy_63 : decode cL_isPolicy 63 = .ok (.iconst 2, 1) := by decide +kernel
theorem dL_isPolicy_64 : decode cL_isPolicy 64 = .ok (.iaload, 1) := by decide +kernel
theorem dL_isPolicy_65 : decode cL_isPolicy 65 = .ok (.if_icmp .ne 105, 3) := by decide +kernel
theorem dL_isPolicy_68 : decode cL_isPolicy 68 = .ok (.aload_n 0, 1) := by decide +kernel
theorem dL_isPolicy_69 : decode cL_isPolicy 69 = .ok (.invokevirtual 89, 3) := by decide +kernel
theorem dL_isPolicy_72 : decode cL_isPolicy 72 = .ok (.aload 4, 2) := by decide +kernel
theorem dL_isPolicy_74 : decode cL_isPolicy 74 = .ok (.iconst 3, 1) := by decide +kernel
theorem dL_isPolicy_75 : decode cL_isPolicy 75 = .ok (.iaload, 1) := by decide +kernel
theorem dL_isPolicy_76 : decode cL_isPolicy 76 = .ok (.if_icmp .ne 94, 3) := by decide +kernel
theorem dL_isPolicy_79 : decode cL_isPolicy 79 = .ok (.aload_n 0, 1) := by decide +kernel
theorem dL_isPolicy_80 : decode cL_isPolicy 80 = .ok (.invokevirtual 92, 3) := by decide +kernel
theorem dL_isPolicy_83 : decode cL_isPolicy 83 = .ok (.aload 4, 2) := by decide +kernel
theorem dL_isPolicy_85 : decode cL_isPolicy 85 = .ok (.iconst 0, 1) := by decide +kernel
theorem dL_isPolicy_86 : decode cL_isPolicy 86 = .ok (.iaload, 1) := by decide +kernel
theorem dL_isPolicy_87 : decode cL_isPolicy 87 = .ok (.iconst 1, 1) := by decide +kernel
theorem dL_isPolicy_88 : decode cL_isPolicy 88 = .ok (.if_icmp .ne 10, 3) := by decide +kernel
theorem dL_isPolicy_91 : decode cL_isPolicy 91 = .ok (.aload 4, 2) := by decide +kernel
theorem dL_isPolicy_93 : decode cL_isPolicy 93 = .ok (.iconst 4, 1) := by decide +kernel
theorem dL_isPolicy_94 : decode cL_isPolicy 94 = .ok (.iaload, 1) := by decide +kernel
theorem dL_isPolicy_95 : decode cL_isPolicy 95 = .ok (.goto 4, 3) := by decide +kernel
theorem dL_isPolicy_98 : decode cL_isPolicy 98 = .ok (.iconst 0, 1) := by decide +kernel
theorem dL_isPolicy_99 : decode cL_isPolicy 99 = .ok (.if_icmp .ne 71, 3) := by decide +kernel
theorem dL_isPolicy_102 : decode cL_isPolicy 102 = .ok (.aload_n 0, 1) := by decide +kernel
theorem dL_isPolicy_103 : decode cL_isPolicy 103 = .ok (.invokevirtual 95, 3) := by decide +kernel
theorem dL_isPolicy_106 : decode cL_isPolicy 106 = .ok (.aload 4, 2) := by decide +kernel
theorem dL_isPolicy_108 : decode cL_isPolicy 108 = .ok (.bipush 6, 2) := by decide +kernel
theorem dL_isPolicy_110 : decode cL_isPolicy 110 = .ok (.iaload, 1) := by decide +kernel
theorem dL_isPolicy_111 : decode cL_isPolicy 111 = .ok (.if_icmp .ne 59, 3) := by decide +kernel
theorem dL_isPolicy_114 : decode cL_isPolicy 114 = .ok (.aload_n 0, 1) := by decide +kernel
theorem dL_isPolicy_115 : decode cL_isPolicy 115 = .ok (.invokevirtual 98, 3) := by decide +kernel
theorem dL_isPolicy_118 : decode cL_isPolicy 118 = .ok (.i2l, 1) := by decide +kernel
theorem dL_isPolicy_119 : decode cL_isPolicy 119 = .ok (.iload 8, 2) := by decide +kernel
theorem dL_isPolicy_121 : decode cL_isPolicy 121 = .ok (.ifCond .eq 15, 3) := by decide +kernel
theorem dL_isPolicy_124 : decode cL_isPolicy 124 = .ok (.aload_n 1, 1) := by decide +kernel
theorem dL_isPolicy_125 : decode cL_isPolicy 125 = .ok (.aload 4, 2) := by decide +kernel
theorem dL_isPolicy_127 : decode cL_isPolicy 127 = .ok (.aload_n 1, 1) := by decide +kernel
theorem dL_isPolicy_128 : decode cL_isPolicy 128 = .ok (.iconst 3, 1) := by decide +kernel
theorem dL_isPolicy_129 : decode cL_isPolicy 129 = .ok (.iaload, 1) := by decide +kernel
theorem dL_isPolicy_130 : decode cL_isPolicy 130 = .ok (.invokestatic 15, 3) := by decide +kernel
theorem dL_isPolicy_133 : decode cL_isPolicy 133 = .ok (.goto 4, 3) := by decide +kernel
theorem dL_isPolicy_136 : decode cL_isPolicy 136 = .ok (.lconst 0, 1) := by decide +kernel
theorem dL_isPolicy_137 : decode cL_isPolicy 137 = .ok (.lcmp, 1) := by decide +kernel
theorem dL_isPolicy_138 : decode cL_isPolicy 138 = .ok (.ifCond .ne 32, 3) := by decide +kernel
theorem dL_isPolicy_141 : decode cL_isPolicy 141 = .ok (.aload_n 0, 1) := by decide +kernel
theorem dL_isPolicy_142 : decode cL_isPolicy 142 = .ok (.invokevirtual 101, 3) := by decide +kernel
theorem dL_isPolicy_145 : decode cL_isPolicy 145 = .ok (.iload 8, 2) := by decide +kernel
theorem dL_isPolicy_147 : decode cL_isPolicy 147 = .ok (.ifCond .eq 15, 3) := by decide +kernel
theorem dL_isPolicy_150 : decode cL_isPolicy 150 = .ok (.aload_n 1, 1) := by decide +kernel
theorem dL_isPolicy_151 : decode cL_isPolicy 151 = .ok (.aload 4, 2) := by decide +kernel
theorem dL_isPolicy_153 : decode cL_isPolicy 153 = .ok (.aload_n 1, 1) := by decide +kernel
theorem dL_isPolicy_154 : decode cL_isPolicy 154 = .ok (.iconst 3, 1) := by decide +kernel
theorem dL_isPolicy_155 : decode cL_isPolicy 155 = .ok (.iaload, 1) := by decide +kernel
theorem dL_isPolicy_156 : decode cL_isPolicy 156 = .ok (.invokestatic 21, 3) := by decide +kernel
theorem dL_isPolicy_159 : decode cL_isPolicy 159 = .ok (.goto 4, 3) := by decide +kernel
theorem dL_isPolicy_162 : decode cL_isPolicy 162 = .ok (.iconst 0, 1) := by decide +kernel
theorem dL_isPolicy_163 : decode cL_isPolicy 163 = .ok (.if_icmp .ne 7, 3) := by decide +kernel
theorem dL_isPolicy_166 : decode cL_isPolicy 166 = .ok (.iconst 1, 1) := by decide +kernel
theorem dL_isPolicy_167 : decode cL_isPolicy 167 = .ok (.goto 4, 3) := by decide +kernel
theorem dL_isPolicy_170 : decode cL_isPolicy 170 = .ok (.iconst 0, 1) := by decide +kernel
theorem dL_isPolicy_171 : decode cL_isPolicy 171 = .ok (.istore 9, 2) := by decide +kernel
theorem dL_isPolicy_173 : decode cL_isPolicy 173 = .ok (.iconst 0, 1) := by decide +kernel
theorem dL_isPolicy_174 : decode cL_isPolicy 174 = .ok (.istore 10, 2) := by decide +kernel
theorem dL_isPolicy_176 : decode cL_isPolicy 176 = .ok (.iload 10, 2) := by decide +kernel
theorem dL_isPolicy_178 : decode cL_isPolicy 178 = .ok (.aload_n 1, 1) := by decide +kernel
theorem dL_isPolicy_179 : decode cL_isPolicy 179 = .ok (.iconst 3, 1) := by decide +kernel
theorem dL_isPolicy_180 : decode cL_isPolicy 180 = .ok (.iaload, 1) := by decide +kernel
theorem dL_isPolicy_181 : decode cL_isPolicy 181 = .ok (.if_icmp .gt 49, 3) := by decide +kernel
theorem dL_isPolicy_184 : decode cL_isPolicy 184 = .ok (.iload 9, 2) := by decide +kernel
theorem dL_isPolicy_186 : decode cL_isPolicy 186 = .ok (.ifCond .eq 44, 3) := by decide +kernel
theorem dL_isPolicy_189 : decode cL_isPolicy 189 = .ok (.aload_n 0, 1) := by decide +kernel
theorem dL_isPolicy_190 : decode cL_isPolicy 190 = .ok (.iload 10, 2) := by decide +kernel
theorem dL_isPolicy_192 : decode cL_isPolicy 192 = .ok (.invokevirtual 103, 3) := by decide +kernel
theorem dL_isPolicy_195 : decode cL_isPolicy 195 = .ok (.aload 6, 2) := by decide +kernel
theorem dL_isPolicy_197 : decode cL_isPolicy 197 = .ok (.iload 10, 2) := by decide +kernel
theorem dL_isPolicy_199 : decode cL_isPolicy 199 = .ok (.iaload, 1) := by decide +kernel
theorem dL_isPolicy_200 : decode cL_isPolicy 200 = .ok (.if_icmp .ne 21, 3) := by decide +kernel
theorem dL_isPolicy_203 : decode cL_isPolicy 203 = .ok (.aload_n 0, 1) := by decide +kernel
theorem dL_isPolicy_204 : decode cL_isPolicy 204 = .ok (.iload 10, 2) := by decide +kernel
theorem dL_isPolicy_206 : decode cL_isPolicy 206 = .ok (.invokevirtual 106, 3) := by decide +kernel
theorem dL_isPolicy_209 : decode cL_isPolicy 209 = .ok (.aload 5, 2) := by decide +kernel
theorem dL_isPolicy_211 : decode cL_isPolicy 211 = .ok (.iload 10, 2) := by decide +kernel
theorem dL_isPolicy_213 : decode cL_isPolicy 213 = .ok (.iaload, 1) := by decide +kernel
theorem dL_isPolicy_214 : decode cL_isPolicy 214 = .ok (.if_icmp .ne 7, 3) := by decide +kernel
theorem dL_isPolicy_217 : decode cL_isPolicy 217 = .ok (.iconst 1, 1) := by decide +kernel
theorem dL_isPolicy_218 : decode cL_isPolicy 218 = .ok (.goto 4, 3) := by decide +kernel
theorem dL_isPolicy_221 : decode cL_isPolicy 221 = .ok (.iconst 0, 1) := by decide +kernel
theorem dL_isPolicy_222 : decode cL_isPolicy 222 = .ok (.istore 9, 2) := by decide +kernel
theorem dL_isPolicy_224 : decode cL_isPolicy 224 = .ok (.iinc 10 1, 3) := by decide +kernel
theorem dL_isPolicy_227 : decode cL_isPolicy 227 = .ok (.goto (-51), 3) := by decide +kernel
theorem dL_isPolicy_230 : decode cL_isPolicy 230 = .ok (.iload 7, 2) := by decide +kernel
theorem dL_isPolicy_232 : decode cL_isPolicy 232 = .ok (.aload_n 1, 1) := by decide +kernel
theorem dL_isPolicy_233 : decode cL_isPolicy 233 = .ok (.iconst 3, 1) := by decide +kernel
theorem dL_isPolicy_234 : decode cL_isPolicy 234 = .ok (.iaload, 1) := by decide +kernel
theorem dL_isPolicy_235 : decode cL_isPolicy 235 = .ok (.iconst 1, 1) := by decide +kernel
theorem dL_isPolicy_236 : decode cL_isPolicy 236 = .ok (.iadd, 1) := by decide +kernel
theorem dL_isPolicy_237 : decode cL_isPolicy 237 = .ok (.irem, 1) := by decide +kernel
theorem dL_isPolicy_238 : decode cL_isPolicy 238 = .ok (.istore 10, 2) := by decide +kernel
theorem dL_isPolicy_240 : decode cL_isPolicy 240 = .ok (.iload 9, 2) := by decide +kernel
theorem dL_isPolicy_242 : decode cL_isPolicy 242 = .ok (.ifCond .eq 47, 3) := by decide +kernel
theorem dL_isPolicy_245 : decode cL_isPolicy 245 = .ok (.aload_n 0, 1) := by decide +kernel
theorem dL_isPolicy_246 : decode cL_isPolicy 246 = .ok (.iload 10, 2) := by decide +kernel
theorem dL_isPolicy_248 : decode cL_isPolicy 248 = .ok (.invokevirtual 109, 3) := by decide +kernel
theorem dL_isPolicy_251 : decode cL_isPolicy 251 = .ok (.aload 6, 2) := by decide +kernel
theorem dL_isPolicy_253 : decode cL_isPolicy 253 = .ok (.iload 10, 2) := by decide +kernel
theorem dL_isPolicy_255 : decode cL_isPolicy 255 = .ok (.iaload, 1) := by decide +kernel
theorem dL_isPolicy_256 : decode cL_isPolicy 256 = .ok (.if_icmp .ne 33, 3) := by decide +kernel
theorem dL_isPolicy_259 : decode cL_isPolicy 259 = .ok (.aload_n 0, 1) := by decide +kernel
theorem dL_isPolicy_260 : decode cL_isPolicy 260 = .ok (.bipush 18, 2) := by decide +kernel
theorem dL_isPolicy_262 : decode cL_isPolicy 262 = .ok (.iload 7, 2) := by decide +kernel
theorem dL_isPolicy_264 : decode cL_isPolicy 264 = .ok (.bipush 103, 2) := by decide +kernel
theorem dL_isPolicy_266 : decode cL_isPolicy 266 = .ok (.irem, 1) := by decide +kernel
theorem dL_isPolicy_267 : decode cL_isPolicy 267 = .ok (.iadd, 1) := by decide +kernel
theorem dL_isPolicy_268 : decode cL_isPolicy 268 = .ok (.invokevirtual 112, 3) := by decide +kernel
theorem dL_isPolicy_271 : decode cL_isPolicy 271 = .ok (.bipush 18, 2) := by decide +kernel
theorem dL_isPolicy_273 : decode cL_isPolicy 273 = .ok (.iload 7, 2) := by decide +kernel
theorem dL_isPolicy_275 : decode cL_isPolicy 275 = .ok (.bipush 103, 2) := by decide +kernel
theorem dL_isPolicy_277 : decode cL_isPolicy 277 = .ok (.irem, 1) := by decide +kernel
theorem dL_isPolicy_278 : decode cL_isPolicy 278 = .ok (.iadd, 1) := by decide +kernel
theorem dL_isPolicy_279 : decode cL_isPolicy 279 = .ok (.invokestatic 7, 3) := by decide +kernel
theorem dL_isPolicy_282 : decode cL_isPolicy 282 = .ok (.if_icmp .ne 7, 3) := by decide +kernel
theorem dL_isPolicy_285 : decode cL_isPolicy 285 = .ok (.iconst 1, 1) := by decide +kernel
theorem dL_isPolicy_286 : decode cL_isPolicy 286 = .ok (.goto 4, 3) := by decide +kernel
theorem dL_isPolicy_289 : decode cL_isPolicy 289 = .ok (.iconst 0, 1) := by decide +kernel
theorem dL_isPolicy_290 : decode cL_isPolicy 290 = .ok (.istore 9, 2) := by decide +kernel
theorem dL_isPolicy_292 : decode cL_isPolicy 292 = .ok (.iconst 0, 1) := by decide +kernel
theorem dL_isPolicy_293 : decode cL_isPolicy 293 = .ok (.istore 11, 2) := by decide +kernel
theorem dL_isPolicy_295 : decode cL_isPolicy 295 = .ok (.iload 11, 2) := by decide +kernel
theorem dL_isPolicy_297 : decode cL_isPolicy 297 = .ok (.aload_n 1, 1) := by decide +kernel
theorem dL_isPolicy_298 : decode cL_isPolicy 298 = .ok (.iconst 4, 1) := by decide +kernel
theorem dL_isPolicy_299 : decode cL_isPolicy 299 = .ok (.iaload, 1) := by decide +kernel
theorem dL_isPolicy_300 : decode cL_isPolicy 300 = .ok (.if_icmp .ge 47, 3) := by decide +kernel
theorem dL_isPolicy_303 : decode cL_isPolicy 303 = .ok (.iload 9, 2) := by decide +kernel
theorem dL_isPolicy_305 : decode cL_isPolicy 305 = .ok (.ifCond .eq 42, 3) := by decide +kernel
theorem dL_isPolicy_308 : decode cL_isPolicy 308 = .ok (.aload_n 0, 1) := by decide +kernel
theorem dL_isPolicy_309 : decode cL_isPolicy 309 = .ok (.iconst 1, 1) := by decide +kernel
theorem dL_isPolicy_310 : decode cL_isPolicy 310 = .ok (.iload 11, 2) := by decide +kernel
theorem dL_isPolicy_312 : decode cL_isPolicy 312 = .ok (.invokestatic 113, 3) := by decide +kernel
theorem dL_isPolicy_315 : decode cL_isPolicy 315 = .ok (.aload_n 2, 1) := by decide +kernel
theorem dL_isPolicy_316 : decode cL_isPolicy 316 = .ok (.iload 11, 2) := by decide +kernel
theorem dL_isPolicy_318 : decode cL_isPolicy 318 = .ok (.iaload, 1) := by decide +kernel
theorem dL_isPolicy_319 : decode cL_isPolicy 319 = .ok (.ifCond .ge 8, 3) := by decide +kernel
theorem dL_isPolicy_322 : decode cL_isPolicy 322 = .ok (.bipush (-11), 2) := by decide +kernel
theorem dL_isPolicy_324 : decode cL_isPolicy 324 = .ok (.goto 7, 3) := by decide +kernel
theorem dL_isPolicy_327 : decode cL_isPolicy 327 = .ok (.aload_n 3, 1) := by decide +kernel
theorem dL_isPolicy_328 : decode cL_isPolicy 328 = .ok (.iload 11, 2) := by decide +kernel
theorem dL_isPolicy_330 : decode cL_isPolicy 330 = .ok (.iaload, 1) := by decide +kernel
theorem dL_isPolicy_331 : decode cL_isPolicy 331 = .ok (.if_icmp .ne 7, 3) := by decide +kernel
theorem dL_isPolicy_334 : decode cL_isPolicy 334 = .ok (.iconst 1, 1) := by decide +kernel
theorem dL_isPolicy_335 : decode cL_isPolicy 335 = .ok (.goto 4, 3) := by decide +kernel
theorem dL_isPolicy_338 : decode cL_isPolicy 338 = .ok (.iconst 0, 1) := by decide +kernel
theorem dL_isPolicy_339 : decode cL_isPolicy 339 = .ok (.istore 9, 2) := by decide +kernel
theorem dL_isPolicy_341 : decode cL_isPolicy 341 = .ok (.iinc 11 1, 3) := by decide +kernel
theorem dL_isPolicy_344 : decode cL_isPolicy 344 = .ok (.goto (-49), 3) := by decide +kernel
theorem dL_isPolicy_347 : decode cL_isPolicy 347 = .ok (.iconst 1, 1) := by decide +kernel
theorem dL_isPolicy_348 : decode cL_isPolicy 348 = .ok (.iload 7, 2) := by decide +kernel
theorem dL_isPolicy_350 : decode cL_isPolicy 350 = .ok (.iconst 5, 1) := by decide +kernel
theorem dL_isPolicy_351 : decode cL_isPolicy 351 = .ok (.idiv, 1) := by decide +kernel
theorem dL_isPolicy_352 : decode cL_isPolicy 352 = .ok (.bipush 120, 2) := by decide +kernel
theorem dL_isPolicy_354 : decode cL_isPolicy 354 = .ok (.irem, 1) := by decide +kernel
theorem dL_isPolicy_355 : decode cL_isPolicy 355 = .ok (.iadd, 1) := by decide +kernel
theorem dL_isPolicy_356 : decode cL_isPolicy 356 = .ok (.istore 11, 2) := by decide +kernel
theorem dL_isPolicy_358 : decode cL_isPolicy 358 = .ok (.iload 9, 2) := by decide +kernel
theorem dL_isPolicy_360 : decode cL_isPolicy 360 = .ok (.ifCond .eq 34, 3) := by decide +kernel
theorem dL_isPolicy_363 : decode cL_isPolicy 363 = .ok (.aload_n 0, 1) := by decide +kernel
theorem dL_isPolicy_364 : decode cL_isPolicy 364 = .ok (.iload 11, 2) := by decide +kernel
theorem dL_isPolicy_366 : decode cL_isPolicy 366 = .ok (.invokevirtual 117, 3) := by decide +kernel
theorem dL_isPolicy_369 : decode cL_isPolicy 369 = .ok (.iload 8, 2) := by decide +kernel
theorem dL_isPolicy_371 : decode cL_isPolicy 371 = .ok (.ifCond .eq 15, 3) := by decide +kernel
theorem dL_isPolicy_374 : decode cL_isPolicy 374 = .ok (.aload_n 1, 1) := by decide +kernel
theorem dL_isPolicy_375 : decode cL_isPolicy 375 = .ok (.aload 4, 2) := by decide +kernel
theorem dL_isPolicy_377 : decode cL_isPolicy 377 = .ok (.iload 11, 2) := by decide +kernel
theorem dL_isPolicy_379 : decode cL_isPolicy 379 = .ok (.iconst 0, 1) := by decide +kernel
theorem dL_isPolicy_380 : decode cL_isPolicy 380 = .ok (.invokestatic 120, 3) := by decide +kernel
theorem dL_isPolicy_383 : decode cL_isPolicy 383 = .ok (.goto 4, 3) := by decide +kernel
theorem dL_isPolicy_386 : decode cL_isPolicy 386 = .ok (.iconst (-1), 1) := by decide +kernel
theorem dL_isPolicy_387 : decode cL_isPolicy 387 = .ok (.if_icmp .ne 7, 3) := by decide +kernel
theorem dL_isPolicy_390 : decode cL_isPolicy 390 = .ok (.iconst 1, 1) := by decide +kernel
theorem dL_isPolicy_391 : decode cL_isPolicy 391 = .ok (.goto 4, 3) := by decide +kernel
theorem dL_isPolicy_394 : decode cL_isPolicy 394 = .ok (.iconst 0, 1) := by decide +kernel
theorem dL_isPolicy_395 : decode cL_isPolicy 395 = .ok (.istore 9, 2) := by decide +kernel
theorem dL_isPolicy_397 : decode cL_isPolicy 397 = .ok (.iload 7, 2) := by decide +kernel
theorem dL_isPolicy_399 : decode cL_isPolicy 399 = .ok (.iconst 3, 1) := by decide +kernel
theorem dL_isPolicy_400 : decode cL_isPolicy 400 = .ok (.irem, 1) := by decide +kernel
theorem dL_isPolicy_401 : decode cL_isPolicy 401 = .ok (.ifCond .ne 128, 3) := by decide +kernel
theorem dL_isPolicy_404 : decode cL_isPolicy 404 = .ok (.iload 9, 2) := by decide +kernel
theorem dL_isPolicy_406 : decode cL_isPolicy 406 = .ok (.ifCond .eq 123, 3) := by decide +kernel
theorem dL_isPolicy_409 : decode cL_isPolicy 409 = .ok (.iconst 1, 1) := by decide +kernel
theorem dL_isPolicy_410 : decode cL_isPolicy 410 = .ok (.iload 7, 2) := by decide +kernel
theorem dL_isPolicy_412 : decode cL_isPolicy 412 = .ok (.bipush 7, 2) := by decide +kernel
theorem dL_isPolicy_414 : decode cL_isPolicy 414 = .ok (.idiv, 1) := by decide +kernel
theorem dL_isPolicy_415 : decode cL_isPolicy 415 = .ok (.bipush 36, 2) := by decide +kernel
theorem dL_isPolicy_417 : decode cL_isPolicy 417 = .ok (.irem, 1) := by decide +kernel
theorem dL_isPolicy_418 : decode cL_isPolicy 418 = .ok (.iadd, 1) := by decide +kernel
theorem dL_isPolicy_419 : decode cL_isPolicy 419 = .ok (.istore 12, 2) := by decide +kernel
theorem dL_isPolicy_421 : decode cL_isPolicy 421 = .ok (.aload_n 0, 1) := by decide +kernel
theorem dL_isPolicy_422 : decode cL_isPolicy 422 = .ok (.iload 12, 2) := by decide +kernel
theorem dL_isPolicy_424 : decode cL_isPolicy 424 = .ok (.invokevirtual 124, 3) := by decide +kernel
theorem dL_isPolicy_427 : decode cL_isPolicy 427 = .ok (.istore 13, 2) := by decide +kernel
theorem dL_isPolicy_429 : decode cL_isPolicy 429 = .ok (.iload 8, 2) := by decide +kernel
theorem dL_isPolicy_431 : decode cL_isPolicy 431 = .ok (.ifCond .ne 17, 3) := by decide +kernel
theorem dL_isPolicy_434 : decode cL_isPolicy 434 = .ok (.iload 13, 2) := by decide +kernel
theorem dL_isPolicy_436 : decode cL_isPolicy 436 = .ok (.iconst (-1), 1) := by decide +kernel
theorem dL_isPolicy_437 : decode cL_isPolicy 437 = .ok (.if_icmp .ne 7, 3) := by decide +kernel
theorem dL_isPolicy_440 : decode cL_isPolicy 440 = .ok (.iconst 1, 1) := by decide +kernel
theorem dL_isPolicy_441 : decode cL_isPolicy 441 = .ok (.goto 86, 3) := by decide +kernel
theorem dL_isPolicy_444 : decode cL_isPolicy 444 = .ok (.iconst 0, 1) := by decide +kernel
theorem dL_isPolicy_445 : decode cL_isPolicy 445 = .ok (.goto 82, 3) := by decide +kernel
theorem dL_isPolicy_448 : decode cL_isPolicy 448 = .ok (.iload 13, 2) := by decide +kernel
theorem dL_isPolicy_450 : decode cL_isPolicy 450 = .ok (.ifCond .ge 24, 3) := by decide +kernel
theorem dL_isPolicy_453 : decode cL_isPolicy 453 = .ok (.aload_n 1, 1) := by decide +kernel
theorem dL_isPolicy_454 : decode cL_isPolicy 454 = .ok (.aload 4, 2) := by decide +kernel
theorem dL_isPolicy_456 : decode cL_isPolicy 456 = .ok (.iload 12, 2) := by decide +kernel
theorem dL_isPolicy_458 : decode cL_isPolicy 458 = .ok (.ldc 127, 2) := by decide +kernel
theorem dL_isPolicy_460 : decode cL_isPolicy 460 = .ok (.invokestatic 120, 3) := by decide +kernel
theorem dL_isPolicy_463 : decode cL_isPolicy 463 = .ok (.ifCond .le 7, 3) := by decide +kernel
theorem dL_isPolicy_466 : decode cL_isPolicy 466 = .ok (.iconst 1, 1) := by decide +kernel
theorem dL_isPolicy_467 : decode cL_isPolicy 467 = .ok (.goto 60, 3) := by decide +kernel
theorem dL_isPolicy_470 : decode cL_isPolicy 470 = .ok (.iconst 0, 1) := by decide +kernel
theorem dL_isPolicy_471 : decode cL_isPolicy 471 = .ok (.goto 56, 3) := by decide +kernel
theorem dL_isPolicy_474 : decode cL_isPolicy 474 = .ok (.aload_n 1, 1) := by decide +kernel
theorem dL_isPolicy_475 : decode cL_isPolicy 475 = .ok (.aload 4, 2) := by decide +kernel
theorem dL_isPolicy_477 : decode cL_isPolicy 477 = .ok (.iload 12, 2) := by decide +kernel
theorem dL_isPolicy_479 : decode cL_isPolicy 479 = .ok (.iload 13, 2) := by decide +kernel
theorem dL_isPolicy_481 : decode cL_isPolicy 481 = .ok (.invokestatic 120, 3) := by decide +kernel
theorem dL_isPolicy_484 : decode cL_isPolicy 484 = .ok (.ifCond .ge 42, 3) := by decide +kernel
theorem dL_isPolicy_487 : decode cL_isPolicy 487 = .ok (.iload 13, 2) := by decide +kernel
theorem dL_isPolicy_489 : decode cL_isPolicy 489 = .ok (.ifCond .eq 33, 3) := by decide +kernel
theorem dL_isPolicy_492 : decode cL_isPolicy 492 = .ok (.aload_n 1, 1) := by decide +kernel
theorem dL_isPolicy_493 : decode cL_isPolicy 493 = .ok (.aload 4, 2) := by decide +kernel
theorem dL_isPolicy_495 : decode cL_isPolicy 495 = .ok (.iload 12, 2) := by decide +kernel
theorem dL_isPolicy_497 : decode cL_isPolicy 497 = .ok (.iload 13, 2) := by decide +kernel
theorem dL_isPolicy_499 : decode cL_isPolicy 499 = .ok (.iconst 1, 1) := by decide +kernel
theorem dL_isPolicy_500 : decode cL_isPolicy 500 = .ok (.isub, 1) := by decide +kernel
theorem dL_isPolicy_501 : decode cL_isPolicy 501 = .ok (.invokestatic 120, 3) := by decide +kernel
theorem dL_isPolicy_504 : decode cL_isPolicy 504 = .ok (.ifCond .le 22, 3) := by decide +kernel
theorem dL_isPolicy_507 : decode cL_isPolicy 507 = .ok (.aload_n 1, 1) := by decide +kernel
theorem dL_isPolicy_508 : decode cL_isPolicy 508 = .ok (.aload 4, 2) := by decide +kernel
theorem dL_isPolicy_510 : decode cL_isPolicy 510 = .ok (.iload 12, 2) := by decide +kernel
theorem dL_isPolicy_512 : decode cL_isPolicy 512 = .ok (.iload 13, 2) := by decide +kernel
theorem dL_isPolicy_514 : decode cL_isPolicy 514 = .ok (.iconst 2, 1) := by decide +kernel
theorem dL_isPolicy_515 : decode cL_isPolicy 515 = .ok (.idiv, 1) := by decide +kernel
theorem dL_isPolicy_516 : decode cL_isPolicy 516 = .ok (.invokestatic 120, 3) := by decide +kernel
theorem dL_isPolicy_519 : decode cL_isPolicy 519 = .ok (.ifCond .le 7, 3) := by decide +kernel
theorem dL_isPolicy_522 : decode cL_isPolicy 522 = .ok (.iconst 1, 1) := by decide +kernel
theorem dL_isPolicy_523 : decode cL_isPolicy 523 = .ok (.goto 4, 3) := by decide +kernel
theorem dL_isPolicy_526 : decode cL_isPolicy 526 = .ok (.iconst 0, 1) := by decide +kernel
theorem dL_isPolicy_527 : decode cL_isPolicy 527 = .ok (.istore 9, 2) := by decide +kernel
theorem dL_isPolicy_529 : decode cL_isPolicy 529 = .ok (.iload 9, 2) := by decide +kernel
theorem dL_isPolicy_531 : decode cL_isPolicy 531 = .ok (.ireturn, 1) := by decide +kernel
