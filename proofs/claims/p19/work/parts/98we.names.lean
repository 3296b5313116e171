theorem dL_goes_0 : decode cL_goes 0 = .ok (.bipush 15, 2) := by decide +kernel
theorem dL_goes_2 : decode cL_goes 2 = .ok (.iload 6, 2) := by decide +kernel
theorem dL_goes_4 : decode cL_goes 4 = .ok (.imul, 1) := by decide +kernel
theorem dL_goes_5 : decode cL_goes 5 = .ok (.istore 7, 2) := by decide +kernel
theorem dL_goes_7 : decode cL_goes 7 = .ok (.iconst 0, 1) := by decide +kernel
theorem dL_goes_8 : decode cL_goes 8 = .ok (.istore 8, 2) := by decide +kernel
theorem dL_goes_10 : decode cL_goes 10 = .ok (.iload 8, 2) := by decide +kernel
theorem dL_goes_12 : decode cL_goes 12 = .ok (.iconst 5, 1) := by decide +kernel
theorem dL_goes_13 : decode cL_goes 13 = .ok (.if_icmp .ge 25, 3) := by decide +kernel
theorem dL_goes_16 : decode cL_goes 16 = .ok (.aload 4, 2) := by decide +kernel
theorem dL_goes_18 : decode cL_goes 18 = .ok (.iload 8, 2) := by decide +kernel
theorem dL_goes_20 : decode cL_goes 20 = .ok (.aload_n 0, 1) := by decide +kernel
theorem dL_goes_21 : decode cL_goes 21 = .ok (.iload 7, 2) := by decide +kernel
theorem dL_goes_23 : decode cL_goes 23 = .ok (.bipush 7, 2) := by decide +kernel
theorem dL_goes_25 : decode cL_goes 25 = .ok (.iadd, 1) := by decide +kernel
theorem dL_goes_26 : decode cL_goes 26 = .ok (.iload 8, 2) := by decide +kernel
theorem dL_goes_28 : decode cL_goes 28 = .ok (.iadd, 1) := by decide +kernel
theorem dL_goes_29 : decode cL_goes 29 = .ok (.iaload, 1) := by decide +kernel
theorem dL_goes_30 : decode cL_goes 30 = .ok (.i2l, 1) := by decide +kernel
theorem dL_goes_31 : decode cL_goes 31 = .ok (.lastore, 1) := by decide +kernel
theorem dL_goes_32 : decode cL_goes 32 = .ok (.iinc 8 1, 3) := by decide +kernel
theorem dL_goes_35 : decode cL_goes 35 = .ok (.goto (-25), 3) := by decide +kernel
theorem dL_goes_38 : decode cL_goes 38 = .ok (.iconst 0, 1) := by decide +kernel
theorem dL_goes_39 : decode cL_goes 39 = .ok (.istore 8, 2) := by decide +kernel
theorem dL_goes_41 : decode cL_goes 41 = .ok (.iload 8, 2) := by decide +kernel
theorem dL_goes_43 : decode cL_goes 43 = .ok (.aload_n 0, 1) := by decide +kernel
theorem dL_goes_44 : decode cL_goes 44 = .ok (.iload 7, 2) := by decide +kernel
theorem dL_goes_46 : decode cL_goes 46 = .ok (.bipush 12, 2) := by decide +kernel
theorem dL_goes_48 : decode cL_goes 48 = .ok (.iadd, 1) := by decide +kernel
theorem dL_goes_49 : decode cL_goes 49 = .ok (.iaload, 1) := by decide +kernel
theorem dL_goes_50 : decode cL_goes 50 = .ok (.if_icmp .gt 497, 3) := by decide +kernel
theorem dL_goes_53 : decode cL_goes 53 = .ok (.iload 8, 2) := by decide +kernel
theorem dL_goes_55 : decode cL_goes 55 = .ok (.ifCond .le 11, 3) := by decide +kernel
theorem dL_goes_58 : decode cL_goes 58 = .ok (.aload_n 0, 1) := by decide +kernel
theorem dL_goes_59 : decode cL_goes 59 = .ok (.iload 7, 2) := by decide +kernel
theorem dL_goes_61 : decode cL_goes 61 = .ok (.aload 4, 2) := by decide +kernel
theorem dL_goes_63 : decode cL_goes 63 = .ok (.invokestatic 80, 3) := by decide +kernel
theorem dL_goes_66 : decode cL_goes 66 = .ok (.iconst 0, 1) := by decide +kernel
theorem dL_goes_67 : decode cL_goes 67 = .ok (.istore 9, 2) := by decide +kernel
theorem dL_goes_69 : decode cL_goes 69 = .ok (.iload 9, 2) := by decide +kernel
theorem dL_goes_71 : decode cL_goes 71 = .ok (.iconst 5, 1) := by decide +kernel
theorem dL_goes_72 : decode cL_goes 72 = .ok (.if_icmp .ge 26, 3) := by decide +kernel
theorem dL_goes_75 : decode cL_goes 75 = .ok (.aload 4, 2) := by decide +kernel
theorem dL_goes_77 : decode cL_goes 77 = .ok (.iconst 5, 1) := by decide +kernel
theorem dL_goes_78 : decode cL_goes 78 = .ok (.iconst 5, 1) := by decide +kernel
theorem dL_goes_79 : decode cL_goes 79 = .ok (.iload 8, 2) := by decide +kernel
theorem dL_goes_81 : decode cL_goes 81 = .ok (.imul, 1) := by decide +kernel
theorem dL_goes_82 : decode cL_goes 82 = .ok (.iadd, 1) := by decide +kernel
theorem dL_goes_83 : decode cL_goes 83 = .ok (.iload 9, 2) := by decide +kernel
theorem dL_goes_85 : decode cL_goes 85 = .ok (.iadd, 1) := by decide +kernel
theorem dL_goes_86 : decode cL_goes 86 = .ok (.aload 4, 2) := by decide +kernel
theorem dL_goes_88 : decode cL_goes 88 = .ok (.iload 9, 2) := by decide +kernel
theorem dL_goes_90 : decode cL_goes 90 = .ok (.laload, 1) := by decide +kernel
theorem dL_goes_91 : decode cL_goes 91 = .ok (.lastore, 1) := by decide +kernel
theorem dL_goes_92 : decode cL_goes 92 = .ok (.iinc 9 1, 3) := by decide +kernel
theorem dL_goes_95 : decode cL_goes 95 = .ok (.goto (-26), 3) := by decide +kernel
theorem dL_goes_98 : decode cL_goes 98 = .ok (.bipush 8, 2) := by decide +kernel
theorem dL_goes_100 : decode cL_goes 100 = .ok (.iload 6, 2) := by decide +kernel
theorem dL_goes_102 : decode cL_goes 102 = .ok (.imul, 1) := by decide +kernel
theorem dL_goes_103 : decode cL_goes 103 = .ok (.istore 9, 2) := by decide +kernel
theorem dL_goes_105 : decode cL_goes 105 = .ok (.iload 9, 2) := by decide +kernel
theorem dL_goes_107 : decode cL_goes 107 = .ok (.bipush 8, 2) := by decide +kernel
theorem dL_goes_109 : decode cL_goes 109 = .ok (.iload 6, 2) := by decide +kernel
theorem dL_goes_111 : decode cL_goes 111 = .ok (.imul, 1) := by decide +kernel
theorem dL_goes_112 : decode cL_goes 112 = .ok (.aload_n 0, 1) := by decide +kernel
theorem dL_goes_113 : decode cL_goes 113 = .ok (.iload 7, 2) := by decide +kernel
theorem dL_goes_115 : decode cL_goes 115 = .ok (.bipush 14, 2) := by decide +kernel
theorem dL_goes_117 : decode cL_goes 117 = .ok (.iadd, 1) := by decide +kernel
theorem dL_goes_118 : decode cL_goes 118 = .ok (.iaload, 1) := by decide +kernel
theorem dL_goes_119 : decode cL_goes 119 = .ok (.iadd, 1) := by decide +kernel
theorem dL_goes_120 : decode cL_goes 120 = .ok (.if_icmp .ge 364, 3) := by decide +kernel
theorem dL_goes_123 : decode cL_goes 123 = .ok (.aload_n 1, 1) := by decide +kernel
theorem dL_goes_124 : decode cL_goes 124 = .ok (.iload 9, 2) := by decide +kernel
theorem dL_goes_126 : decode cL_goes 126 = .ok (.laload, 1) := by decide +kernel
theorem dL_goes_127 : decode cL_goes 127 = .ok (.ldc2_w 84, 3) := by decide +kernel
theorem dL_goes_130 : decode cL_goes 130 = .ok (.lrem, 1) := by decide +kernel
theorem dL_goes_131 : decode cL_goes 131 = .ok (.iload 8, 2) := by decide +kernel
theorem dL_goes_133 : decode cL_goes 133 = .ok (.i2l, 1) := by decide +kernel
theorem dL_goes_134 : decode cL_goes 134 = .ok (.lcmp, 1) := by decide +kernel
theorem dL_goes_135 : decode cL_goes 135 = .ok (.ifCond .ne 343, 3) := by decide +kernel
theorem dL_goes_138 : decode cL_goes 138 = .ok (.aload_n 3, 1) := by decide +kernel
theorem dL_goes_139 : decode cL_goes 139 = .ok (.iload 9, 2) := by decide +kernel
theorem dL_goes_141 : decode cL_goes 141 = .ok (.laload, 1) := by decide +kernel
theorem dL_goes_142 : decode cL_goes 142 = .ok (.ldc2_w 86, 3) := by decide +kernel
theorem dL_goes_145 : decode cL_goes 145 = .ok (.lrem, 1) := by decide +kernel
theorem dL_goes_146 : decode cL_goes 146 = .ok (.lconst 1, 1) := by decide +kernel
theorem dL_goes_147 : decode cL_goes 147 = .ok (.lcmp, 1) := by decide +kernel
theorem dL_goes_148 : decode cL_goes 148 = .ok (.ifCond .ne 6, 3) := by decide +kernel
theorem dL_goes_151 : decode cL_goes 151 = .ok (.goto 327, 3) := by decide +kernel
theorem dL_goes_154 : decode cL_goes 154 = .ok (.aload_n 1, 1) := by decide +kernel
theorem dL_goes_155 : decode cL_goes 155 = .ok (.iload 9, 2) := by decide +kernel
theorem dL_goes_157 : decode cL_goes 157 = .ok (.laload, 1) := by decide +kernel
theorem dL_goes_158 : decode cL_goes 158 = .ok (.bipush 32, 2) := by decide +kernel
theorem dL_goes_160 : decode cL_goes 160 = .ok (.lshr, 1) := by decide +kernel
theorem dL_goes_161 : decode cL_goes 161 = .ok (.lstore 10, 2) := by decide +kernel
theorem dL_goes_163 : decode cL_goes 163 = .ok (.aload_n 2, 1) := by decide +kernel
theorem dL_goes_164 : decode cL_goes 164 = .ok (.iload 9, 2) := by decide +kernel
theorem dL_goes_166 : decode cL_goes 166 = .ok (.laload, 1) := by decide +kernel
theorem dL_goes_167 : decode cL_goes 167 = .ok (.bipush 32, 2) := by decide +kernel
theorem dL_goes_169 : decode cL_goes 169 = .ok (.lshr, 1) := by decide +kernel
theorem dL_goes_170 : decode cL_goes 170 = .ok (.lstore 12, 2) := by decide +kernel
theorem dL_goes_172 : decode cL_goes 172 = .ok (.aload 4, 2) := by decide +kernel
theorem dL_goes_174 : decode cL_goes 174 = .ok (.iconst 2, 1) := by decide +kernel
theorem dL_goes_175 : decode cL_goes 175 = .ok (.laload, 1) := by decide +kernel
theorem dL_goes_176 : decode cL_goes 176 = .ok (.lload 10, 2) := by decide +kernel
theorem dL_goes_178 : decode cL_goes 178 = .ok (.lmul, 1) := by decide +kernel
theorem dL_goes_179 : decode cL_goes 179 = .ok (.aload 4, 2) := by decide +kernel
theorem dL_goes_181 : decode cL_goes 181 = .ok (.iconst 3, 1) := by decide +kernel
theorem dL_goes_182 : decode cL_goes 182 = .ok (.laload, 1) := by decide +kernel
theorem dL_goes_183 : decode cL_goes 183 = .ok (.lload 12, 2) := by decide +kernel
theorem dL_goes_185 : decode cL_goes 185 = .ok (.lmul, 1) := by decide +kernel
theorem dL_goes_186 : decode cL_goes 186 = .ok (.ladd, 1) := by decide +kernel
theorem dL_goes_187 : decode cL_goes 187 = .ok (.invokestatic 76, 3) := by decide +kernel
theorem dL_goes_190 : decode cL_goes 190 = .ok (.lstore 14, 2) := by decide +kernel
theorem dL_goes_192 : decode cL_goes 192 = .ok (.aload 4, 2) := by decide +kernel
theorem dL_goes_194 : decode cL_goes 194 = .ok (.iconst 3, 1) := by decide +kernel
theorem dL_goes_195 : decode cL_goes 195 = .ok (.laload, 1) := by decide +kernel
theorem dL_goes_196 : decode cL_goes 196 = .ok (.lload 10, 2) := by decide +kernel
theorem dL_goes_198 : decode cL_goes 198 = .ok (.lmul, 1) := by decide +kernel
theorem dL_goes_199 : decode cL_goes 199 = .ok (.aload 4, 2) := by decide +kernel
theorem dL_goes_201 : decode cL_goes 201 = .ok (.iconst 4, 1) := by decide +kernel
theorem dL_goes_202 : decode cL_goes 202 = .ok (.laload, 1) := by decide +kernel
theorem dL_goes_203 : decode cL_goes 203 = .ok (.lload 12, 2) := by decide +kernel
theorem dL_goes_205 : decode cL_goes 205 = .ok (.lmul, 1) := by decide +kernel
theorem dL_goes_206 : decode cL_goes 206 = .ok (.ladd, 1) := by decide +kernel
theorem dL_goes_207 : decode cL_goes 207 = .ok (.invokestatic 76, 3) := by decide +kernel
theorem dL_goes_210 : decode cL_goes 210 = .ok (.lstore 16, 2) := by decide +kernel
theorem dL_goes_212 : decode cL_goes 212 = .ok (.lload 10, 2) := by decide +kernel
theorem dL_goes_214 : decode cL_goes 214 = .ok (.lload 14, 2) := by decide +kernel
theorem dL_goes_216 : decode cL_goes 216 = .ok (.lmul, 1) := by decide +kernel
theorem dL_goes_217 : decode cL_goes 217 = .ok (.lload 12, 2) := by decide +kernel
theorem dL_goes_219 : decode cL_goes 219 = .ok (.lload 16, 2) := by decide +kernel
theorem dL_goes_221 : decode cL_goes 221 = .ok (.lmul, 1) := by decide +kernel
theorem dL_goes_222 : decode cL_goes 222 = .ok (.ladd, 1) := by decide +kernel
theorem dL_goes_223 : decode cL_goes 223 = .ok (.aload_n 3, 1) := by decide +kernel
theorem dL_goes_224 : decode cL_goes 224 = .ok (.iload 9, 2) := by decide +kernel
theorem dL_goes_226 : decode cL_goes 226 = .ok (.laload, 1) := by decide +kernel
theorem dL_goes_227 : decode cL_goes 227 = .ok (.ldc2_w 86, 3) := by decide +kernel
theorem dL_goes_230 : decode cL_goes 230 = .ok (.ldiv, 1) := by decide +kernel
theorem dL_goes_231 : decode cL_goes 231 = .ok (.ladd, 1) := by decide +kernel
theorem dL_goes_232 : decode cL_goes 232 = .ok (.invokestatic 76, 3) := by decide +kernel
theorem dL_goes_235 : decode cL_goes 235 = .ok (.lstore 18, 2) := by decide +kernel
theorem dL_goes_237 : decode cL_goes 237 = .ok (.lload 18, 2) := by decide +kernel
theorem dL_goes_239 : decode cL_goes 239 = .ok (.lconst 0, 1) := by decide +kernel
theorem dL_goes_240 : decode cL_goes 240 = .ok (.lcmp, 1) := by decide +kernel
theorem dL_goes_241 : decode cL_goes 241 = .ok (.ifCond .ne 5, 3) := by decide +kernel
theorem dL_goes_244 : decode cL_goes 244 = .ok (.iconst 0, 1) := by decide +kernel
theorem dL_goes_245 : decode cL_goes 245 = .ok (.ireturn, 1) := by decide +kernel
theorem dL_goes_246 : decode cL_goes 246 = .ok (.aload_n 2, 1) := by decide +kernel
theorem dL_goes_247 : decode cL_goes 247 = .ok (.iload 9, 2) := by decide +kernel
theorem dL_goes_249 : decode cL_goes 249 = .ok (.laload, 1) := by decide +kernel
theorem dL_goes_250 : decode cL_goes 250 = .ok (.ldc2_w 88, 3) := by decide +kernel
theorem dL_goes_253 : decode cL_goes 253 = .ok (.lrem, 1) := by decide +kernel
theorem dL_goes_254 : decode cL_goes 254 = .ok (.lload 10, 2) := by decide +kernel
theorem dL_goes_256 : decode cL_goes 256 = .ok (.aload 4, 2) := by decide +kernel
theorem dL_goes_258 : decode cL_goes 258 = .ok (.iconst 0, 1) := by decide +kernel
theorem dL_goes_259 : decode cL_goes 259 = .ok (.laload, 1) := by decide +kernel
theorem dL_goes_260 : decode cL_goes 260 = .ok (.lmul, 1) := by decide +kernel
theorem dL_goes_261 : decode cL_goes 261 = .ok (.invokestatic 76, 3) := by decide +kernel
theorem dL_goes_264 : decode cL_goes 264 = .ok (.lsub, 1) := by decide +kernel
theorem dL_goes_265 : decode cL_goes 265 = .ok (.lload 12, 2) := by decide +kernel
theorem dL_goes_267 : decode cL_goes 267 = .ok (.aload 4, 2) := by decide +kernel
theorem dL_goes_269 : decode cL_goes 269 = .ok (.iconst 1, 1) := by decide +kernel
theorem dL_goes_270 : decode cL_goes 270 = .ok (.laload, 1) := by decide +kernel
theorem dL_goes_271 : decode cL_goes 271 = .ok (.lmul, 1) := by decide +kernel
theorem dL_goes_272 : decode cL_goes 272 = .ok (.invokestatic 76, 3) := by decide +kernel
theorem dL_goes_275 : decode cL_goes 275 = .ok (.lsub, 1) := by decide +kernel
theorem dL_goes_276 : decode cL_goes 276 = .ok (.invokestatic 76, 3) := by decide +kernel
theorem dL_goes_279 : decode cL_goes 279 = .ok (.lstore 20, 2) := by decide +kernel
theorem dL_goes_281 : decode cL_goes 281 = .ok (.lload 20, 2) := by decide +kernel
theorem dL_goes_283 : decode cL_goes 283 = .ok (.lload 20, 2) := by decide +kernel
theorem dL_goes_285 : decode cL_goes 285 = .ok (.lmul, 1) := by decide +kernel
theorem dL_goes_286 : decode cL_goes 286 = .ok (.invokestatic 76, 3) := by decide +kernel
theorem dL_goes_289 : decode cL_goes 289 = .ok (.lload 18, 2) := by decide +kernel
theorem dL_goes_291 : decode cL_goes 291 = .ok (.invokestatic 90, 3) := by decide +kernel
theorem dL_goes_294 : decode cL_goes 294 = .ok (.lmul, 1) := by decide +kernel
theorem dL_goes_295 : decode cL_goes 295 = .ok (.invokestatic 76, 3) := by decide +kernel
theorem dL_goes_298 : decode cL_goes 298 = .ok (.lstore 22, 2) := by decide +kernel
theorem dL_goes_300 : decode cL_goes 300 = .ok (.lload 22, 2) := by decide +kernel
theorem dL_goes_302 : decode cL_goes 302 = .ok (.aload_n 1, 1) := by decide +kernel
theorem dL_goes_303 : decode cL_goes 303 = .ok (.iload 9, 2) := by decide +kernel
theorem dL_goes_305 : decode cL_goes 305 = .ok (.laload, 1) := by decide +kernel
theorem dL_goes_306 : decode cL_goes 306 = .ok (.ldc2_w 93, 3) := by decide +kernel
theorem dL_goes_309 : decode cL_goes 309 = .ok (.lrem, 1) := by decide +kernel
theorem dL_goes_310 : decode cL_goes 310 = .ok (.ldc2_w 84, 3) := by decide +kernel
theorem dL_goes_313 : decode cL_goes 313 = .ok (.ldiv, 1) := by decide +kernel
theorem dL_goes_314 : decode cL_goes 314 = .ok (.lcmp, 1) := by decide +kernel
theorem dL_goes_315 : decode cL_goes 315 = .ok (.ifCond .lt 7, 3) := by decide +kernel
theorem dL_goes_318 : decode cL_goes 318 = .ok (.iconst 1, 1) := by decide +kernel
theorem dL_goes_319 : decode cL_goes 319 = .ok (.goto 4, 3) := by decide +kernel
theorem dL_goes_322 : decode cL_goes 322 = .ok (.iconst 0, 1) := by decide +kernel
theorem dL_goes_323 : decode cL_goes 323 = .ok (.istore 24, 2) := by decide +kernel
theorem dL_goes_325 : decode cL_goes 325 = .ok (.iconst 4, 1) := by decide +kernel
theorem dL_goes_326 : decode cL_goes 326 = .ok (.iload 9, 2) := by decide +kernel
theorem dL_goes_328 : decode cL_goes 328 = .ok (.bipush 8, 2) := by decide +kernel
theorem dL_goes_330 : decode cL_goes 330 = .ok (.irem, 1) := by decide +kernel
theorem dL_goes_331 : decode cL_goes 331 = .ok (.imul, 1) := by decide +kernel
theorem dL_goes_332 : decode cL_goes 332 = .ok (.istore 25, 2) := by decide +kernel
theorem dL_goes_334 : decode cL_goes 334 = .ok (.aload 5, 2) := by decide +kernel
theorem dL_goes_336 : decode cL_goes 336 = .ok (.iload 25, 2) := by decide +kernel
theorem dL_goes_338 : decode cL_goes 338 = .ok (.lload 20, 2) := by decide +kernel
theorem dL_goes_340 : decode cL_goes 340 = .ok (.lastore, 1) := by decide +kernel
theorem dL_goes_341 : decode cL_goes 341 = .ok (.aload 5, 2) := by decide +kernel
theorem dL_goes_343 : decode cL_goes 343 = .ok (.iload 25, 2) := by decide +kernel
theorem dL_goes_345 : decode cL_goes 345 = .ok (.iconst 1, 1) := by decide +kernel
theorem dL_goes_346 : decode cL_goes 346 = .ok (.iadd, 1) := by decide +kernel
theorem dL_goes_347 : decode cL_goes 347 = .ok (.lload 18, 2) := by decide +kernel
theorem dL_goes_349 : decode cL_goes 349 = .ok (.lastore, 1) := by decide +kernel
theorem dL_goes_350 : decode cL_goes 350 = .ok (.aload 5, 2) := by decide +kernel
theorem dL_goes_352 : decode cL_goes 352 = .ok (.iload 25, 2) := by decide +kernel
theorem dL_goes_354 : decode cL_goes 354 = .ok (.iconst 2, 1) := by decide +kernel
theorem dL_goes_355 : decode cL_goes 355 = .ok (.iadd, 1) := by decide +kernel
theorem dL_goes_356 : decode cL_goes 356 = .ok (.lload 22, 2) := by decide +kernel
theorem dL_goes_358 : decode cL_goes 358 = .ok (.lastore, 1) := by decide +kernel
theorem dL_goes_359 : decode cL_goes 359 = .ok (.aload 5, 2) := by decide +kernel
theorem dL_goes_361 : decode cL_goes 361 = .ok (.iload 25, 2) := by decide +kernel
theorem dL_goes_363 : decode cL_goes 363 = .ok (.iconst 3, 1) := by decide +kernel
theorem dL_goes_364 : decode cL_goes 364 = .ok (.iadd, 1) := by decide +kernel
theorem dL_goes_365 : decode cL_goes 365 = .ok (.iload 24, 2) := by decide +kernel
theorem dL_goes_367 : decode cL_goes 367 = .ok (.ifCond .eq 7, 3) := by decide +kernel
theorem dL_goes_370 : decode cL_goes 370 = .ok (.lconst 1, 1) := by decide +kernel
theorem dL_goes_371 : decode cL_goes 371 = .ok (.goto 4, 3) := by decide +kernel
theorem dL_goes_374 : decode cL_goes 374 = .ok (.lconst 0, 1) := by decide +kernel
theorem dL_goes_375 : decode cL_goes 375 = .ok (.lastore, 1) := by decide +kernel
theorem dL_goes_376 : decode cL_goes 376 = .ok (.iconst 0, 1) := by decide +kernel
theorem dL_goes_377 : decode cL_goes 377 = .ok (.istore 26, 2) := by decide +kernel
theorem dL_goes_379 : decode cL_goes 379 = .ok (.iload 26, 2) := by decide +kernel
theorem dL_goes_381 : decode cL_goes 381 = .ok (.iconst 5, 1) := by decide +kernel
theorem dL_goes_382 : decode cL_goes 382 = .ok (.if_icmp .ge 96, 3) := by decide +kernel
theorem dL_goes_385 : decode cL_goes 385 = .ok (.iload 24, 2) := by decide +kernel
theorem dL_goes_387 : decode cL_goes 387 = .ok (.ifCond .ne 91, 3) := by decide +kernel
theorem dL_goes_390 : decode cL_goes 390 = .ok (.iload 26, 2) := by decide +kernel
theorem dL_goes_392 : decode cL_goes 392 = .ok (.ifCond .eq 15, 3) := by decide +kernel
theorem dL_goes_395 : decode cL_goes 395 = .ok (.iload 26, 2) := by decide +kernel
theorem dL_goes_397 : decode cL_goes 397 = .ok (.iconst 2, 1) := by decide +kernel
theorem dL_goes_398 : decode cL_goes 398 = .ok (.if_icmp .eq 9, 3) := by decide +kernel
theorem dL_goes_401 : decode cL_goes 401 = .ok (.iload 26, 2) := by decide +kernel
theorem dL_goes_403 : decode cL_goes 403 = .ok (.iconst 3, 1) := by decide +kernel
theorem dL_goes_404 : decode cL_goes 404 = .ok (.if_icmp .ne 8, 3) := by decide +kernel
theorem dL_goes_407 : decode cL_goes 407 = .ok (.lload 14, 2) := by decide +kernel
theorem dL_goes_409 : decode cL_goes 409 = .ok (.goto 5, 3) := by decide +kernel
theorem dL_goes_412 : decode cL_goes 412 = .ok (.lload 16, 2) := by decide +kernel
theorem dL_goes_414 : decode cL_goes 414 = .ok (.lstore 27, 2) := by decide +kernel
theorem dL_goes_416 : decode cL_goes 416 = .ok (.iload 26, 2) := by decide +kernel
theorem dL_goes_418 : decode cL_goes 418 = .ok (.iconst 2, 1) := by decide +kernel
theorem dL_goes_419 : decode cL_goes 419 = .ok (.if_icmp .ge 8, 3) := by decide +kernel
theorem dL_goes_422 : decode cL_goes 422 = .ok (.lload 20, 2) := by decide +kernel
theorem dL_goes_424 : decode cL_goes 424 = .ok (.goto 18, 3) := by decide +kernel
theorem dL_goes_427 : decode cL_goes 427 = .ok (.iload 26, 2) := by decide +kernel
theorem dL_goes_429 : decode cL_goes 429 = .ok (.iconst 2, 1) := by decide +kernel
theorem dL_goes_430 : decode cL_goes 430 = .ok (.if_icmp .ne 9, 3) := by decide +kernel
theorem dL_goes_433 : decode cL_goes 433 = .ok (.lload 14, 2) := by decide +kernel
theorem dL_goes_435 : decode cL_goes 435 = .ok (.lneg, 1) := by decide +kernel
theorem dL_goes_436 : decode cL_goes 436 = .ok (.goto 6, 3) := by decide +kernel
theorem dL_goes_439 : decode cL_goes 439 = .ok (.lload 16, 2) := by decide +kernel
theorem dL_goes_441 : decode cL_goes 441 = .ok (.lneg, 1) := by decide +kernel
theorem dL_goes_442 : decode cL_goes 442 = .ok (.lstore 29, 2) := by decide +kernel
theorem dL_goes_444 : decode cL_goes 444 = .ok (.aload 4, 2) := by decide +kernel
theorem dL_goes_446 : decode cL_goes 446 = .ok (.iload 26, 2) := by decide +kernel
theorem dL_goes_448 : decode cL_goes 448 = .ok (.aload 4, 2) := by decide +kernel
theorem dL_goes_450 : decode cL_goes 450 = .ok (.iload 26, 2) := by decide +kernel
theorem dL_goes_452 : decode cL_goes 452 = .ok (.laload, 1) := by decide +kernel
theorem dL_goes_453 : decode cL_goes 453 = .ok (.lload 27, 2) := by decide +kernel
theorem dL_goes_455 : decode cL_goes 455 = .ok (.lload 18, 2) := by decide +kernel
theorem dL_goes_457 : decode cL_goes 457 = .ok (.invokestatic 90, 3) := by decide +kernel
theorem dL_goes_460 : decode cL_goes 460 = .ok (.lmul, 1) := by decide +kernel
theorem dL_goes_461 : decode cL_goes 461 = .ok (.invokestatic 76, 3) := by decide +kernel
theorem dL_goes_464 : decode cL_goes 464 = .ok (.lload 29, 2) := by decide +kernel
theorem dL_goes_466 : decode cL_goes 466 = .ok (.lmul, 1) := by decide +kernel
theorem dL_goes_467 : decode cL_goes 467 = .ok (.ladd, 1) := by decide +kernel
theorem dL_goes_468 : decode cL_goes 468 = .ok (.invokestatic 76, 3) := by decide +kernel
theorem dL_goes_471 : decode cL_goes 471 = .ok (.lastore, 1) := by decide +kernel
theorem dL_goes_472 : decode cL_goes 472 = .ok (.iinc 26 1, 3) := by decide +kernel
theorem dL_goes_475 : decode cL_goes 475 = .ok (.goto (-96), 3) := by decide +kernel
theorem dL_goes_478 : decode cL_goes 478 = .ok (.iinc 9 1, 3) := by decide +kernel
theorem dL_goes_481 : decode cL_goes 481 = .ok (.goto (-376), 3) := by decide +kernel
theorem dL_goes_484 : decode cL_goes 484 = .ok (.iconst 0, 1) := by decide +kernel
theorem dL_goes_485 : decode cL_goes 485 = .ok (.istore 9, 2) := by decide +kernel
theorem dL_goes_487 : decode cL_goes 487 = .ok (.iload 9, 2) := by decide +kernel
theorem dL_goes_489 : decode cL_goes 489 = .ok (.iconst 5, 1) := by decide +kernel
theorem dL_goes_490 : decode cL_goes 490 = .ok (.if_icmp .ge 51, 3) := by decide +kernel
theorem dL_goes_493 : decode cL_goes 493 = .ok (.aload 4, 2) := by decide +kernel
theorem dL_goes_495 : decode cL_goes 495 = .ok (.bipush 40, 2) := by decide +kernel
theorem dL_goes_497 : decode cL_goes 497 = .ok (.iload 8, 2) := by decide +kernel
theorem dL_goes_499 : decode cL_goes 499 = .ok (.iconst 4, 1) := by decide +kernel
theorem dL_goes_500 : decode cL_goes 500 = .ok (.if_icmp .ge 13, 3) := by decide +kernel
theorem dL_goes_503 : decode cL_goes 503 = .ok (.iconst 5, 1) := by decide +kernel
theorem dL_goes_504 : decode cL_goes 504 = .ok (.iload 8, 2) := by decide +kernel
theorem dL_goes_506 : decode cL_goes 506 = .ok (.imul, 1) := by decide +kernel
theorem dL_goes_507 : decode cL_goes 507 = .ok (.iload 9, 2) := by decide +kernel
theorem dL_goes_509 : decode cL_goes 509 = .ok (.iadd, 1) := by decide +kernel
theorem dL_goes_510 : decode cL_goes 510 = .ok (.goto 4, 3) := by decide +kernel
theorem dL_goes_513 : decode cL_goes 513 = .ok (.iconst 0, 1) := by decide +kernel
theorem dL_goes_514 : decode cL_goes 514 = .ok (.iadd, 1) := by decide +kernel
theorem dL_goes_515 : decode cL_goes 515 = .ok (.iload 8, 2) := by decide +kernel
theorem dL_goes_517 : decode cL_goes 517 = .ok (.iconst 4, 1) := by decide +kernel
theorem dL_goes_518 : decode cL_goes 518 = .ok (.if_icmp .ge 11, 3) := by decide +kernel
theorem dL_goes_521 : decode cL_goes 521 = .ok (.aload 4, 2) := by decide +kernel
theorem dL_goes_523 : decode cL_goes 523 = .ok (.iload 9, 2) := by decide +kernel
theorem dL_goes_525 : decode cL_goes 525 = .ok (.laload, 1) := by decide +kernel
theorem dL_goes_526 : decode cL_goes 526 = .ok (.goto 8, 3) := by decide +kernel
theorem dL_goes_529 : decode cL_goes 529 = .ok (.aload 4, 2) := by decide +kernel
theorem dL_goes_531 : decode cL_goes 531 = .ok (.bipush 40, 2) := by decide +kernel
theorem dL_goes_533 : decode cL_goes 533 = .ok (.laload, 1) := by decide +kernel
theorem dL_goes_534 : decode cL_goes 534 = .ok (.lastore, 1) := by decide +kernel
theorem dL_goes_535 : decode cL_goes 535 = .ok (.iinc 9 1, 3) := by decide +kernel
theorem dL_goes_538 : decode cL_goes 538 = .ok (.goto (-51), 3) := by decide +kernel
theorem dL_goes_541 : decode cL_goes 541 = .ok (.iinc 8 1, 3) := by decide +kernel
theorem dL_goes_544 : decode cL_goes 544 = .ok (.goto (-503), 3) := by decide +kernel
theorem dL_goes_547 : decode cL_goes 547 = .ok (.iconst 1, 1) := by decide +kernel
theorem dL_goes_548 : decode cL_goes 548 = .ok (.ireturn, 1) := by decide +kernel
