theorem dL_isDone_0 : decode cL_isDone 0 = .ok (.iload 9, 2) := by decide +kernel
theorem dL_isDone_2 : decode cL_isDone 2 = .ok (.bipush 7, 2) := by decide +kernel
theorem dL_isDone_4 : decode cL_isDone 4 = .ok (.irem, 1) := by decide +kernel
theorem dL_isDone_5 : decode cL_isDone 5 = .ok (.bipush 6, 2) := by decide +kernel
theorem dL_isDone_7 : decode cL_isDone 7 = .ok (.if_icmp .ne 10, 3) := by decide +kernel
theorem dL_isDone_10 : decode cL_isDone 10 = .ok (.aload 7, 2) := by decide +kernel
theorem dL_isDone_12 : decode cL_isDone 12 = .ok (.iconst 1, 1) := by decide +kernel
theorem dL_isDone_13 : decode cL_isDone 13 = .ok (.iaload, 1) := by decide +kernel
theorem dL_isDone_14 : decode cL_isDone 14 = .ok (.goto 21, 3) := by decide +kernel
theorem dL_isDone_17 : decode cL_isDone 17 = .ok (.aload 7, 2) := by decide +kernel
theorem dL_isDone_19 : decode cL_isDone 19 = .ok (.iconst 1, 1) := by decide +kernel
theorem dL_isDone_20 : decode cL_isDone 20 = .ok (.iaload, 1) := by decide +kernel
theorem dL_isDone_21 : decode cL_isDone 21 = .ok (.ifCond .ne 7, 3) := by decide +kernel
theorem dL_isDone_24 : decode cL_isDone 24 = .ok (.iconst 0, 1) := by decide +kernel
theorem dL_isDone_25 : decode cL_isDone 25 = .ok (.goto 10, 3) := by decide +kernel
theorem dL_isDone_28 : decode cL_isDone 28 = .ok (.iload 9, 2) := by decide +kernel
theorem dL_isDone_30 : decode cL_isDone 30 = .ok (.aload 7, 2) := by decide +kernel
theorem dL_isDone_32 : decode cL_isDone 32 = .ok (.iconst 1, 1) := by decide +kernel
theorem dL_isDone_33 : decode cL_isDone 33 = .ok (.iaload, 1) := by decide +kernel
theorem dL_isDone_34 : decode cL_isDone 34 = .ok (.irem, 1) := by decide +kernel
theorem dL_isDone_35 : decode cL_isDone 35 = .ok (.istore 11, 2) := by decide +kernel
theorem dL_isDone_37 : decode cL_isDone 37 = .ok (.iload 11, 2) := by decide +kernel
theorem dL_isDone_39 : decode cL_isDone 39 = .ok (.aload 7, 2) := by decide +kernel
theorem dL_isDone_41 : decode cL_isDone 41 = .ok (.iconst 1, 1) := by decide +kernel
theorem dL_isDone_42 : decode cL_isDone 42 = .ok (.iaload, 1) := by decide +kernel
theorem dL_isDone_43 : decode cL_isDone 43 = .ok (.if_icmp .ge 7, 3) := by decide +kernel
theorem dL_isDone_46 : decode cL_isDone 46 = .ok (.iconst 1, 1) := by decide +kernel
theorem dL_isDone_47 : decode cL_isDone 47 = .ok (.goto 4, 3) := by decide +kernel
theorem dL_isDone_50 : decode cL_isDone 50 = .ok (.iconst 0, 1) := by decide +kernel
theorem dL_isDone_51 : decode cL_isDone 51 = .ok (.istore 12, 2) := by decide +kernel
theorem dL_isDone_53 : decode cL_isDone 53 = .ok (.iload 12, 2) := by decide +kernel
theorem dL_isDone_55 : decode cL_isDone 55 = .ok (.ifCond .eq 11, 3) := by decide +kernel
theorem dL_isDone_58 : decode cL_isDone 58 = .ok (.bipush 15, 2) := by decide +kernel
theorem dL_isDone_60 : decode cL_isDone 60 = .ok (.iload 11, 2) := by decide +kernel
theorem dL_isDone_62 : decode cL_isDone 62 = .ok (.imul, 1) := by decide +kernel
theorem dL_isDone_63 : decode cL_isDone 63 = .ok (.goto 5, 3) := by decide +kernel
theorem dL_isDone_66 : decode cL_isDone 66 = .ok (.bipush 30, 2) := by decide +kernel
theorem dL_isDone_68 : decode cL_isDone 68 = .ok (.istore 13, 2) := by decide +kernel
theorem dL_isDone_70 : decode cL_isDone 70 = .ok (.iload 8, 2) := by decide +kernel
theorem dL_isDone_72 : decode cL_isDone 72 = .ok (.ifCond .ne 130, 3) := by decide +kernel
theorem dL_isDone_75 : decode cL_isDone 75 = .ok (.iload 10, 2) := by decide +kernel
theorem dL_isDone_77 : decode cL_isDone 77 = .ok (.bipush 13, 2) := by decide +kernel
theorem dL_isDone_79 : decode cL_isDone 79 = .ok (.irem, 1) := by decide +kernel
theorem dL_isDone_80 : decode cL_isDone 80 = .ok (.bipush 12, 2) := by decide +kernel
theorem dL_isDone_82 : decode cL_isDone 82 = .ok (.if_icmp .ne 9, 3) := by decide +kernel
theorem dL_isDone_85 : decode cL_isDone 85 = .ok (.sipush 10007, 3) := by decide +kernel
theorem dL_isDone_88 : decode cL_isDone 88 = .ok (.goto 25, 3) := by decide +kernel
theorem dL_isDone_91 : decode cL_isDone 91 = .ok (.iload 10, 2) := by decide +kernel
theorem dL_isDone_93 : decode cL_isDone 93 = .ok (.iconst 3, 1) := by decide +kernel
theorem dL_isDone_94 : decode cL_isDone 94 = .ok (.irem, 1) := by decide +kernel
theorem dL_isDone_95 : decode cL_isDone 95 = .ok (.ifCond .ne 9, 3) := by decide +kernel
theorem dL_isDone_98 : decode cL_isDone 98 = .ok (.sipush 10006, 3) := by decide +kernel
theorem dL_isDone_101 : decode cL_isDone 101 = .ok (.goto 12, 3) := by decide +kernel
theorem dL_isDone_104 : decode cL_isDone 104 = .ok (.iload 10, 2) := by decide +kernel
theorem dL_isDone_106 : decode cL_isDone 106 = .ok (.bipush 13, 2) := by decide +kernel
theorem dL_isDone_108 : decode cL_isDone 108 = .ok (.idiv, 1) := by decide +kernel
theorem dL_isDone_109 : decode cL_isDone 109 = .ok (.sipush 10007, 3) := by decide +kernel
theorem dL_isDone_112 : decode cL_isDone 112 = .ok (.irem, 1) := by decide +kernel
theorem dL_isDone_113 : decode cL_isDone 113 = .ok (.istore 14, 2) := by decide +kernel
theorem dL_isDone_115 : decode cL_isDone 115 = .ok (.iload 14, 2) := by decide +kernel
theorem dL_isDone_117 : decode cL_isDone 117 = .ok (.sipush 10007, 3) := by decide +kernel
theorem dL_isDone_120 : decode cL_isDone 120 = .ok (.if_icmp .ge 7, 3) := by decide +kernel
theorem dL_isDone_123 : decode cL_isDone 123 = .ok (.iconst 1, 1) := by decide +kernel
theorem dL_isDone_124 : decode cL_isDone 124 = .ok (.goto 4, 3) := by decide +kernel
theorem dL_isDone_127 : decode cL_isDone 127 = .ok (.iconst 0, 1) := by decide +kernel
theorem dL_isDone_128 : decode cL_isDone 128 = .ok (.istore 15, 2) := by decide +kernel
theorem dL_isDone_130 : decode cL_isDone 130 = .ok (.aload_n 1, 1) := by decide +kernel
theorem dL_isDone_131 : decode cL_isDone 131 = .ok (.iload 13, 2) := by decide +kernel
theorem dL_isDone_133 : decode cL_isDone 133 = .ok (.bipush 13, 2) := by decide +kernel
theorem dL_isDone_135 : decode cL_isDone 135 = .ok (.iadd, 1) := by decide +kernel
theorem dL_isDone_136 : decode cL_isDone 136 = .ok (.iaload, 1) := by decide +kernel
theorem dL_isDone_137 : decode cL_isDone 137 = .ok (.istore 16, 2) := by decide +kernel
theorem dL_isDone_139 : decode cL_isDone 139 = .ok (.aload_n 1, 1) := by decide +kernel
theorem dL_isDone_140 : decode cL_isDone 140 = .ok (.iload 13, 2) := by decide +kernel
theorem dL_isDone_142 : decode cL_isDone 142 = .ok (.bipush 13, 2) := by decide +kernel
theorem dL_isDone_144 : decode cL_isDone 144 = .ok (.iadd, 1) := by decide +kernel
theorem dL_isDone_145 : decode cL_isDone 145 = .ok (.iload 15, 2) := by decide +kernel
theorem dL_isDone_147 : decode cL_isDone 147 = .ok (.ifCond .eq 8, 3) := by decide +kernel
theorem dL_isDone_150 : decode cL_isDone 150 = .ok (.iload 14, 2) := by decide +kernel
theorem dL_isDone_152 : decode cL_isDone 152 = .ok (.goto 5, 3) := by decide +kernel
theorem dL_isDone_155 : decode cL_isDone 155 = .ok (.iload 16, 2) := by decide +kernel
theorem dL_isDone_157 : decode cL_isDone 157 = .ok (.iastore, 1) := by decide +kernel
theorem dL_isDone_158 : decode cL_isDone 158 = .ok (.aload_n 0, 1) := by decide +kernel
theorem dL_isDone_159 : decode cL_isDone 159 = .ok (.iconst 3, 1) := by decide +kernel
theorem dL_isDone_160 : decode cL_isDone 160 = .ok (.iload 11, 2) := by decide +kernel
theorem dL_isDone_162 : decode cL_isDone 162 = .ok (.iload 14, 2) := by decide +kernel
theorem dL_isDone_164 : decode cL_isDone 164 = .ok (.iconst 0, 1) := by decide +kernel
theorem dL_isDone_165 : decode cL_isDone 165 = .ok (.iconst 0, 1) := by decide +kernel
theorem dL_isDone_166 : decode cL_isDone 166 = .ok (.iconst 0, 1) := by decide +kernel
theorem dL_isDone_167 : decode cL_isDone 167 = .ok (.iconst 0, 1) := by decide +kernel
theorem dL_isDone_168 : decode cL_isDone 168 = .ok (.invokestatic 101, 3) := by decide +kernel
theorem dL_isDone_171 : decode cL_isDone 171 = .ok (.iload 12, 2) := by decide +kernel
theorem dL_isDone_173 : decode cL_isDone 173 = .ok (.ifCond .ne 8, 3) := by decide +kernel
theorem dL_isDone_176 : decode cL_isDone 176 = .ok (.bipush (-3), 2) := by decide +kernel
theorem dL_isDone_178 : decode cL_isDone 178 = .ok (.goto 15, 3) := by decide +kernel
theorem dL_isDone_181 : decode cL_isDone 181 = .ok (.iload 15, 2) := by decide +kernel
theorem dL_isDone_183 : decode cL_isDone 183 = .ok (.ifCond .eq 8, 3) := by decide +kernel
theorem dL_isDone_186 : decode cL_isDone 186 = .ok (.iload 16, 2) := by decide +kernel
theorem dL_isDone_188 : decode cL_isDone 188 = .ok (.goto 5, 3) := by decide +kernel
theorem dL_isDone_191 : decode cL_isDone 191 = .ok (.bipush (-2), 2) := by decide +kernel
theorem dL_isDone_193 : decode cL_isDone 193 = .ok (.if_icmp .ne 7, 3) := by decide +kernel
theorem dL_isDone_196 : decode cL_isDone 196 = .ok (.iconst 1, 1) := by decide +kernel
theorem dL_isDone_197 : decode cL_isDone 197 = .ok (.goto 4, 3) := by decide +kernel
theorem dL_isDone_200 : decode cL_isDone 200 = .ok (.iconst 0, 1) := by decide +kernel
theorem dL_isDone_201 : decode cL_isDone 201 = .ok (.ireturn, 1) := by decide +kernel
theorem dL_isDone_202 : decode cL_isDone 202 = .ok (.iload 8, 2) := by decide +kernel
theorem dL_isDone_204 : decode cL_isDone 204 = .ok (.iconst 1, 1) := by decide +kernel
theorem dL_isDone_205 : decode cL_isDone 205 = .ok (.if_icmp .ne 71, 3) := by decide +kernel
theorem dL_isDone_208 : decode cL_isDone 208 = .ok (.iload 12, 2) := by decide +kernel
theorem dL_isDone_210 : decode cL_isDone 210 = .ok (.ifCond .eq 17, 3) := by decide +kernel
theorem dL_isDone_213 : decode cL_isDone 213 = .ok (.aload_n 1, 1) := by decide +kernel
theorem dL_isDone_214 : decode cL_isDone 214 = .ok (.iload 13, 2) := by decide +kernel
theorem dL_isDone_216 : decode cL_isDone 216 = .ok (.bipush 12, 2) := by decide +kernel
theorem dL_isDone_218 : decode cL_isDone 218 = .ok (.iadd, 1) := by decide +kernel
theorem dL_isDone_219 : decode cL_isDone 219 = .ok (.iaload, 1) := by decide +kernel
theorem dL_isDone_220 : decode cL_isDone 220 = .ok (.bipush 6, 2) := by decide +kernel
theorem dL_isDone_222 : decode cL_isDone 222 = .ok (.if_icmp .ne 5, 3) := by decide +kernel
theorem dL_isDone_225 : decode cL_isDone 225 = .ok (.iconst 1, 1) := by decide +kernel
theorem dL_isDone_226 : decode cL_isDone 226 = .ok (.ireturn, 1) := by decide +kernel
theorem dL_isDone_227 : decode cL_isDone 227 = .ok (.aload_n 1, 1) := by decide +kernel
theorem dL_isDone_228 : decode cL_isDone 228 = .ok (.iload 13, 2) := by decide +kernel
theorem dL_isDone_230 : decode cL_isDone 230 = .ok (.bipush 12, 2) := by decide +kernel
theorem dL_isDone_232 : decode cL_isDone 232 = .ok (.iadd, 1) := by decide +kernel
theorem dL_isDone_233 : decode cL_isDone 233 = .ok (.dup2, 1) := by decide +kernel
theorem dL_isDone_234 : decode cL_isDone 234 = .ok (.iaload, 1) := by decide +kernel
theorem dL_isDone_235 : decode cL_isDone 235 = .ok (.iconst 1, 1) := by decide +kernel
theorem dL_isDone_236 : decode cL_isDone 236 = .ok (.iadd, 1) := by decide +kernel
theorem dL_isDone_237 : decode cL_isDone 237 = .ok (.iastore, 1) := by decide +kernel
theorem dL_isDone_238 : decode cL_isDone 238 = .ok (.aload_n 0, 1) := by decide +kernel
theorem dL_isDone_239 : decode cL_isDone 239 = .ok (.iconst 4, 1) := by decide +kernel
theorem dL_isDone_240 : decode cL_isDone 240 = .ok (.iload 11, 2) := by decide +kernel
theorem dL_isDone_242 : decode cL_isDone 242 = .ok (.iconst 0, 1) := by decide +kernel
theorem dL_isDone_243 : decode cL_isDone 243 = .ok (.iconst 0, 1) := by decide +kernel
theorem dL_isDone_244 : decode cL_isDone 244 = .ok (.iconst 0, 1) := by decide +kernel
theorem dL_isDone_245 : decode cL_isDone 245 = .ok (.iconst 0, 1) := by decide +kernel
theorem dL_isDone_246 : decode cL_isDone 246 = .ok (.iconst 0, 1) := by decide +kernel
theorem dL_isDone_247 : decode cL_isDone 247 = .ok (.invokestatic 101, 3) := by decide +kernel
theorem dL_isDone_250 : decode cL_isDone 250 = .ok (.iload 12, 2) := by decide +kernel
theorem dL_isDone_252 : decode cL_isDone 252 = .ok (.ifCond .eq 13, 3) := by decide +kernel
theorem dL_isDone_255 : decode cL_isDone 255 = .ok (.aload_n 1, 1) := by decide +kernel
theorem dL_isDone_256 : decode cL_isDone 256 = .ok (.iload 13, 2) := by decide +kernel
theorem dL_isDone_258 : decode cL_isDone 258 = .ok (.bipush 12, 2) := by decide +kernel
theorem dL_isDone_260 : decode cL_isDone 260 = .ok (.iadd, 1) := by decide +kernel
theorem dL_isDone_261 : decode cL_isDone 261 = .ok (.iaload, 1) := by decide +kernel
theorem dL_isDone_262 : decode cL_isDone 262 = .ok (.goto 5, 3) := by decide +kernel
theorem dL_isDone_265 : decode cL_isDone 265 = .ok (.bipush (-3), 2) := by decide +kernel
theorem dL_isDone_267 : decode cL_isDone 267 = .ok (.if_icmp .ne 7, 3) := by decide +kernel
theorem dL_isDone_270 : decode cL_isDone 270 = .ok (.iconst 1, 1) := by decide +kernel
theorem dL_isDone_271 : decode cL_isDone 271 = .ok (.goto 4, 3) := by decide +kernel
theorem dL_isDone_274 : decode cL_isDone 274 = .ok (.iconst 0, 1) := by decide +kernel
theorem dL_isDone_275 : decode cL_isDone 275 = .ok (.ireturn, 1) := by decide +kernel
theorem dL_isDone_276 : decode cL_isDone 276 = .ok (.iload 8, 2) := by decide +kernel
theorem dL_isDone_278 : decode cL_isDone 278 = .ok (.iconst 2, 1) := by decide +kernel
theorem dL_isDone_279 : decode cL_isDone 279 = .ok (.if_icmp .ne 419, 3) := by decide +kernel
theorem dL_isDone_282 : decode cL_isDone 282 = .ok (.iload 12, 2) := by decide +kernel
theorem dL_isDone_284 : decode cL_isDone 284 = .ok (.ifCond .eq 17, 3) := by decide +kernel
theorem dL_isDone_287 : decode cL_isDone 287 = .ok (.aload_n 1, 1) := by decide +kernel
theorem dL_isDone_288 : decode cL_isDone 288 = .ok (.iload 13, 2) := by decide +kernel
theorem dL_isDone_290 : decode cL_isDone 290 = .ok (.bipush 14, 2) := by decide +kernel
theorem dL_isDone_292 : decode cL_isDone 292 = .ok (.iadd, 1) := by decide +kernel
theorem dL_isDone_293 : decode cL_isDone 293 = .ok (.iaload, 1) := by decide +kernel
theorem dL_isDone_294 : decode cL_isDone 294 = .ok (.bipush 8, 2) := by decide +kernel
theorem dL_isDone_296 : decode cL_isDone 296 = .ok (.if_icmp .ne 5, 3) := by decide +kernel
theorem dL_isDone_299 : decode cL_isDone 299 = .ok (.iconst 1, 1) := by decide +kernel
theorem dL_isDone_300 : decode cL_isDone 300 = .ok (.ireturn, 1) := by decide +kernel
theorem dL_isDone_301 : decode cL_isDone 301 = .ok (.iload 10, 2) := by decide +kernel
theorem dL_isDone_303 : decode cL_isDone 303 = .ok (.iconst 2, 1) := by decide +kernel
theorem dL_isDone_304 : decode cL_isDone 304 = .ok (.irem, 1) := by decide +kernel
theorem dL_isDone_305 : decode cL_isDone 305 = .ok (.ifCond .ne 7, 3) := by decide +kernel
theorem dL_isDone_308 : decode cL_isDone 308 = .ok (.iconst 1, 1) := by decide +kernel
theorem dL_isDone_309 : decode cL_isDone 309 = .ok (.goto 4, 3) := by decide +kernel
theorem dL_isDone_312 : decode cL_isDone 312 = .ok (.iconst 0, 1) := by decide +kernel
theorem dL_isDone_313 : decode cL_isDone 313 = .ok (.istore 14, 2) := by decide +kernel
theorem dL_isDone_315 : decode cL_isDone 315 = .ok (.iload 14, 2) := by decide +kernel
theorem dL_isDone_317 : decode cL_isDone 317 = .ok (.ifCond .ne 13, 3) := by decide +kernel
theorem dL_isDone_320 : decode cL_isDone 320 = .ok (.aload_n 1, 1) := by decide +kernel
theorem dL_isDone_321 : decode cL_isDone 321 = .ok (.iload 13, 2) := by decide +kernel
theorem dL_isDone_323 : decode cL_isDone 323 = .ok (.bipush 12, 2) := by decide +kernel
theorem dL_isDone_325 : decode cL_isDone 325 = .ok (.iadd, 1) := by decide +kernel
theorem dL_isDone_326 : decode cL_isDone 326 = .ok (.iaload, 1) := by decide +kernel
theorem dL_isDone_327 : decode cL_isDone 327 = .ok (.goto 43, 3) := by decide +kernel
theorem dL_isDone_330 : decode cL_isDone 330 = .ok (.iload 9, 2) := by decide +kernel
theorem dL_isDone_332 : decode cL_isDone 332 = .ok (.bipush 7, 2) := by decide +kernel
theorem dL_isDone_334 : decode cL_isDone 334 = .ok (.idiv, 1) := by decide +kernel
theorem dL_isDone_335 : decode cL_isDone 335 = .ok (.bipush 11, 2) := by decide +kernel
theorem dL_isDone_337 : decode cL_isDone 337 = .ok (.irem, 1) := by decide +kernel
theorem dL_isDone_338 : decode cL_isDone 338 = .ok (.bipush 10, 2) := by decide +kernel
theorem dL_isDone_340 : decode cL_isDone 340 = .ok (.if_icmp .ne 15, 3) := by decide +kernel
theorem dL_isDone_343 : decode cL_isDone 343 = .ok (.aload_n 1, 1) := by decide +kernel
theorem dL_isDone_344 : decode cL_isDone 344 = .ok (.iload 13, 2) := by decide +kernel
theorem dL_isDone_346 : decode cL_isDone 346 = .ok (.bipush 12, 2) := by decide +kernel
theorem dL_isDone_348 : decode cL_isDone 348 = .ok (.iadd, 1) := by decide +kernel
theorem dL_isDone_349 : decode cL_isDone 349 = .ok (.iaload, 1) := by decide +kernel
theorem dL_isDone_350 : decode cL_isDone 350 = .ok (.iconst 1, 1) := by decide +kernel
theorem dL_isDone_351 : decode cL_isDone 351 = .ok (.iadd, 1) := by decide +kernel
theorem dL_isDone_352 : decode cL_isDone 352 = .ok (.goto 18, 3) := by decide +kernel
theorem dL_isDone_355 : decode cL_isDone 355 = .ok (.iload 9, 2) := by decide +kernel
theorem dL_isDone_357 : decode cL_isDone 357 = .ok (.bipush 7, 2) := by decide +kernel
theorem dL_isDone_359 : decode cL_isDone 359 = .ok (.idiv, 1) := by decide +kernel
theorem dL_isDone_360 : decode cL_isDone 360 = .ok (.aload_n 1, 1) := by decide +kernel
theorem dL_isDone_361 : decode cL_isDone 361 = .ok (.iload 13, 2) := by decide +kernel
theorem dL_isDone_363 : decode cL_isDone 363 = .ok (.bipush 12, 2) := by decide +kernel
theorem dL_isDone_365 : decode cL_isDone 365 = .ok (.iadd, 1) := by decide +kernel
theorem dL_isDone_366 : decode cL_isDone 366 = .ok (.iaload, 1) := by decide +kernel
theorem dL_isDone_367 : decode cL_isDone 367 = .ok (.iconst 1, 1) := by decide +kernel
theorem dL_isDone_368 : decode cL_isDone 368 = .ok (.iadd, 1) := by decide +kernel
theorem dL_isDone_369 : decode cL_isDone 369 = .ok (.irem, 1) := by decide +kernel
theorem dL_isDone_370 : decode cL_isDone 370 = .ok (.istore 15, 2) := by decide +kernel
theorem dL_isDone_372 : decode cL_isDone 372 = .ok (.iload 9, 2) := by decide +kernel
theorem dL_isDone_374 : decode cL_isDone 374 = .ok (.iconst 3, 1) := by decide +kernel
theorem dL_isDone_375 : decode cL_isDone 375 = .ok (.idiv, 1) := by decide +kernel
theorem dL_isDone_376 : decode cL_isDone 376 = .ok (.bipush 17, 2) := by decide +kernel
theorem dL_isDone_378 : decode cL_isDone 378 = .ok (.irem, 1) := by decide +kernel
theorem dL_isDone_379 : decode cL_isDone 379 = .ok (.bipush 16, 2) := by decide +kernel
theorem dL_isDone_381 : decode cL_isDone 381 = .ok (.if_icmp .ne 9, 3) := by decide +kernel
theorem dL_isDone_384 : decode cL_isDone 384 = .ok (.sipush 10007, 3) := by decide +kernel
theorem dL_isDone_387 : decode cL_isDone 387 = .ok (.goto 9, 3) := by decide +kernel
theorem dL_isDone_390 : decode cL_isDone 390 = .ok (.iload 9, 2) := by decide +kernel
theorem dL_isDone_392 : decode cL_isDone 392 = .ok (.iconst 3, 1) := by decide +kernel
theorem dL_isDone_393 : decode cL_isDone 393 = .ok (.idiv, 1) := by decide +kernel
theorem dL_isDone_394 : decode cL_isDone 394 = .ok (.iconst 4, 1) := by decide +kernel
theorem dL_isDone_395 : decode cL_isDone 395 = .ok (.irem, 1) := by decide +kernel
theorem dL_isDone_396 : decode cL_isDone 396 = .ok (.istore 16, 2) := by decide +kernel
theorem dL_isDone_398 : decode cL_isDone 398 = .ok (.iload 10, 2) := by decide +kernel
theorem dL_isDone_400 : decode cL_isDone 400 = .ok (.iconst 2, 1) := by decide +kernel
theorem dL_isDone_401 : decode cL_isDone 401 = .ok (.idiv, 1) := by decide +kernel
theorem dL_isDone_402 : decode cL_isDone 402 = .ok (.iconst 5, 1) := by decide +kernel
theorem dL_isDone_403 : decode cL_isDone 403 = .ok (.irem, 1) := by decide +kernel
theorem dL_isDone_404 : decode cL_isDone 404 = .ok (.istore 17, 2) := by decide +kernel
theorem dL_isDone_406 : decode cL_isDone 406 = .ok (.iload 9, 2) := by decide +kernel
theorem dL_isDone_408 : decode cL_isDone 408 = .ok (.bipush 11, 2) := by decide +kernel
theorem dL_isDone_410 : decode cL_isDone 410 = .ok (.idiv, 1) := by decide +kernel
theorem dL_isDone_411 : decode cL_isDone 411 = .ok (.sipush 10007, 3) := by decide +kernel
theorem dL_isDone_414 : decode cL_isDone 414 = .ok (.irem, 1) := by decide +kernel
theorem dL_isDone_415 : decode cL_isDone 415 = .ok (.istore 18, 2) := by decide +kernel
theorem dL_isDone_417 : decode cL_isDone 417 = .ok (.iload 10, 2) := by decide +kernel
theorem dL_isDone_419 : decode cL_isDone 419 = .ok (.bipush 10, 2) := by decide +kernel
theorem dL_isDone_421 : decode cL_isDone 421 = .ok (.idiv, 1) := by decide +kernel
theorem dL_isDone_422 : decode cL_isDone 422 = .ok (.bipush 9, 2) := by decide +kernel
theorem dL_isDone_424 : decode cL_isDone 424 = .ok (.irem, 1) := by decide +kernel
theorem dL_isDone_425 : decode cL_isDone 425 = .ok (.ifCond .ne 7, 3) := by decide +kernel
theorem dL_isDone_428 : decode cL_isDone 428 = .ok (.iconst 0, 1) := by decide +kernel
theorem dL_isDone_429 : decode cL_isDone 429 = .ok (.goto 12, 3) := by decide +kernel
theorem dL_isDone_432 : decode cL_isDone 432 = .ok (.iload 10, 2) := by decide +kernel
theorem dL_isDone_434 : decode cL_isDone 434 = .ok (.bipush 10, 2) := by decide +kernel
theorem dL_isDone_436 : decode cL_isDone 436 = .ok (.idiv, 1) := by decide +kernel
theorem dL_isDone_437 : decode cL_isDone 437 = .ok (.sipush 10007, 3) := by decide +kernel
theorem dL_isDone_440 : decode cL_isDone 440 = .ok (.irem, 1) := by decide +kernel
theorem dL_isDone_441 : decode cL_isDone 441 = .ok (.istore 19, 2) := by decide +kernel
theorem dL_isDone_443 : decode cL_isDone 443 = .ok (.iload 15, 2) := by decide +kernel
