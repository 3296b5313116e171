theorem dL_isSo_0 : decode cL_isSo 0 = .ok (.iconst 1, 1) := by decide +kernel
theorem dL_isSo_1 : decode cL_isSo 1 = .ok (.istore 10, 2) := by decide +kernel
theorem dL_isSo_3 : decode cL_isSo 3 = .ok (.iconst 0, 1) := by decide +kernel
theorem dL_isSo_4 : decode cL_isSo 4 = .ok (.istore 11, 2) := by decide +kernel
theorem dL_isSo_6 : decode cL_isSo 6 = .ok (.iload 11, 2) := by decide +kernel
theorem dL_isSo_8 : decode cL_isSo 8 = .ok (.aload 7, 2) := by decide +kernel
theorem dL_isSo_10 : decode cL_isSo 10 = .ok (.iconst 1, 1) := by decide +kernel
theorem dL_isSo_11 : decode cL_isSo 11 = .ok (.iaload, 1) := by decide +kernel
theorem dL_isSo_12 : decode cL_isSo 12 = .ok (.if_icmp .ge 1253, 3) := by decide +kernel
theorem dL_isSo_15 : decode cL_isSo 15 = .ok (.iload 10, 2) := by decide +kernel
theorem dL_isSo_17 : decode cL_isSo 17 = .ok (.ifCond .eq 1248, 3) := by decide +kernel
theorem dL_isSo_20 : decode cL_isSo 20 = .ok (.bipush 15, 2) := by decide +kernel
theorem dL_isSo_22 : decode cL_isSo 22 = .ok (.iload 11, 2) := by decide +kernel
theorem dL_isSo_24 : decode cL_isSo 24 = .ok (.imul, 1) := by decide +kernel
theorem dL_isSo_25 : decode cL_isSo 25 = .ok (.istore 12, 2) := by decide +kernel
theorem dL_isSo_27 : decode cL_isSo 27 = .ok (.aload_n 1, 1) := by decide +kernel
theorem dL_isSo_28 : decode cL_isSo 28 = .ok (.aload_n 2, 1) := by decide +kernel
theorem dL_isSo_29 : decode cL_isSo 29 = .ok (.aload_n 3, 1) := by decide +kernel
theorem dL_isSo_30 : decode cL_isSo 30 = .ok (.aload 4, 2) := by decide +kernel
theorem dL_isSo_32 : decode cL_isSo 32 = .ok (.aload 5, 2) := by decide +kernel
theorem dL_isSo_34 : decode cL_isSo 34 = .ok (.aload 6, 2) := by decide +kernel
theorem dL_isSo_36 : decode cL_isSo 36 = .ok (.iload 11, 2) := by decide +kernel
theorem dL_isSo_38 : decode cL_isSo 38 = .ok (.invokestatic 95, 3) := by decide +kernel
theorem dL_isSo_41 : decode cL_isSo 41 = .ok (.istore 10, 2) := by decide +kernel
theorem dL_isSo_43 : decode cL_isSo 43 = .ok (.iconst 0, 1) := by decide +kernel
theorem dL_isSo_44 : decode cL_isSo 44 = .ok (.istore 13, 2) := by decide +kernel
theorem dL_isSo_46 : decode cL_isSo 46 = .ok (.iconst 0, 1) := by decide +kernel
theorem dL_isSo_47 : decode cL_isSo 47 = .ok (.istore 14, 2) := by decide +kernel
theorem dL_isSo_49 : decode cL_isSo 49 = .ok (.iload 14, 2) := by decide +kernel
theorem dL_isSo_51 : decode cL_isSo 51 = .ok (.aload_n 1, 1) := by decide +kernel
theorem dL_isSo_52 : decode cL_isSo 52 = .ok (.iload 12, 2) := by decide +kernel
theorem dL_isSo_54 : decode cL_isSo 54 = .ok (.bipush 14, 2) := by decide +kernel
theorem dL_isSo_56 : decode cL_isSo 56 = .ok (.iadd, 1) := by decide +kernel
theorem dL_isSo_57 : decode cL_isSo 57 = .ok (.iaload, 1) := by decide +kernel
theorem dL_isSo_58 : decode cL_isSo 58 = .ok (.if_icmp .ge 170, 3) := by decide +kernel
theorem dL_isSo_61 : decode cL_isSo 61 = .ok (.iload 10, 2) := by decide +kernel
theorem dL_isSo_63 : decode cL_isSo 63 = .ok (.ifCond .eq 165, 3) := by decide +kernel
theorem dL_isSo_66 : decode cL_isSo 66 = .ok (.aload 4, 2) := by decide +kernel
theorem dL_isSo_68 : decode cL_isSo 68 = .ok (.bipush 8, 2) := by decide +kernel
theorem dL_isSo_70 : decode cL_isSo 70 = .ok (.iload 11, 2) := by decide +kernel
theorem dL_isSo_72 : decode cL_isSo 72 = .ok (.imul, 1) := by decide +kernel
theorem dL_isSo_73 : decode cL_isSo 73 = .ok (.iload 14, 2) := by decide +kernel
theorem dL_isSo_75 : decode cL_isSo 75 = .ok (.iadd, 1) := by decide +kernel
theorem dL_isSo_76 : decode cL_isSo 76 = .ok (.laload, 1) := by decide +kernel
theorem dL_isSo_77 : decode cL_isSo 77 = .ok (.ldc2_w 86, 3) := by decide +kernel
theorem dL_isSo_80 : decode cL_isSo 80 = .ok (.lrem, 1) := by decide +kernel
theorem dL_isSo_81 : decode cL_isSo 81 = .ok (.lconst 0, 1) := by decide +kernel
theorem dL_isSo_82 : decode cL_isSo 82 = .ok (.lcmp, 1) := by decide +kernel
theorem dL_isSo_83 : decode cL_isSo 83 = .ok (.ifCond .ne 7, 3) := by decide +kernel
theorem dL_isSo_86 : decode cL_isSo 86 = .ok (.iconst 1, 1) := by decide +kernel
theorem dL_isSo_87 : decode cL_isSo 87 = .ok (.goto 4, 3) := by decide +kernel
theorem dL_isSo_90 : decode cL_isSo 90 = .ok (.iconst 0, 1) := by decide +kernel
theorem dL_isSo_91 : decode cL_isSo 91 = .ok (.istore 15, 2) := by decide +kernel
theorem dL_isSo_93 : decode cL_isSo 93 = .ok (.iload 13, 2) := by decide +kernel
theorem dL_isSo_95 : decode cL_isSo 95 = .ok (.iload 15, 2) := by decide +kernel
theorem dL_isSo_97 : decode cL_isSo 97 = .ok (.ifCond .eq 21, 3) := by decide +kernel
theorem dL_isSo_100 : decode cL_isSo 100 = .ok (.aload 6, 2) := by decide +kernel
theorem dL_isSo_102 : decode cL_isSo 102 = .ok (.iconst 4, 1) := by decide +kernel
theorem dL_isSo_103 : decode cL_isSo 103 = .ok (.iload 14, 2) := by decide +kernel
theorem dL_isSo_105 : decode cL_isSo 105 = .ok (.imul, 1) := by decide +kernel
theorem dL_isSo_106 : decode cL_isSo 106 = .ok (.iconst 3, 1) := by decide +kernel
theorem dL_isSo_107 : decode cL_isSo 107 = .ok (.iadd, 1) := by decide +kernel
theorem dL_isSo_108 : decode cL_isSo 108 = .ok (.laload, 1) := by decide +kernel
theorem dL_isSo_109 : decode cL_isSo 109 = .ok (.lconst 1, 1) := by decide +kernel
theorem dL_isSo_110 : decode cL_isSo 110 = .ok (.lcmp, 1) := by decide +kernel
theorem dL_isSo_111 : decode cL_isSo 111 = .ok (.ifCond .ne 7, 3) := by decide +kernel
theorem dL_isSo_114 : decode cL_isSo 114 = .ok (.iconst 1, 1) := by decide +kernel
theorem dL_isSo_115 : decode cL_isSo 115 = .ok (.goto 4, 3) := by decide +kernel
theorem dL_isSo_118 : decode cL_isSo 118 = .ok (.iconst 0, 1) := by decide +kernel
theorem dL_isSo_119 : decode cL_isSo 119 = .ok (.iadd, 1) := by decide +kernel
theorem dL_isSo_120 : decode cL_isSo 120 = .ok (.istore 13, 2) := by decide +kernel
theorem dL_isSo_122 : decode cL_isSo 122 = .ok (.aload_n 0, 1) := by decide +kernel
theorem dL_isSo_123 : decode cL_isSo 123 = .ok (.iload 11, 2) := by decide +kernel
theorem dL_isSo_125 : decode cL_isSo 125 = .ok (.iload 14, 2) := by decide +kernel
theorem dL_isSo_127 : decode cL_isSo 127 = .ok (.iconst 0, 1) := by decide +kernel
theorem dL_isSo_128 : decode cL_isSo 128 = .ok (.invokevirtual 61, 3) := by decide +kernel
theorem dL_isSo_131 : decode cL_isSo 131 = .ok (.i2l, 1) := by decide +kernel
theorem dL_isSo_132 : decode cL_isSo 132 = .ok (.aload_n 2, 1) := by decide +kernel
theorem dL_isSo_133 : decode cL_isSo 133 = .ok (.bipush 8, 2) := by decide +kernel
theorem dL_isSo_135 : decode cL_isSo 135 = .ok (.iload 11, 2) := by decide +kernel
theorem dL_isSo_137 : decode cL_isSo 137 = .ok (.imul, 1) := by decide +kernel
theorem dL_isSo_138 : decode cL_isSo 138 = .ok (.iload 14, 2) := by decide +kernel
theorem dL_isSo_140 : decode cL_isSo 140 = .ok (.iadd, 1) := by decide +kernel
theorem dL_isSo_141 : decode cL_isSo 141 = .ok (.laload, 1) := by decide +kernel
theorem dL_isSo_142 : decode cL_isSo 142 = .ok (.ldc2_w 84, 3) := by decide +kernel
theorem dL_isSo_145 : decode cL_isSo 145 = .ok (.lrem, 1) := by decide +kernel
theorem dL_isSo_146 : decode cL_isSo 146 = .ok (.lcmp, 1) := by decide +kernel
theorem dL_isSo_147 : decode cL_isSo 147 = .ok (.ifCond .ne 7, 3) := by decide +kernel
theorem dL_isSo_150 : decode cL_isSo 150 = .ok (.iconst 1, 1) := by decide +kernel
theorem dL_isSo_151 : decode cL_isSo 151 = .ok (.goto 4, 3) := by decide +kernel
theorem dL_isSo_154 : decode cL_isSo 154 = .ok (.iconst 0, 1) := by decide +kernel
theorem dL_isSo_155 : decode cL_isSo 155 = .ok (.istore 10, 2) := by decide +kernel
theorem dL_isSo_157 : decode cL_isSo 157 = .ok (.iconst 0, 1) := by decide +kernel
theorem dL_isSo_158 : decode cL_isSo 158 = .ok (.istore 16, 2) := by decide +kernel
theorem dL_isSo_160 : decode cL_isSo 160 = .ok (.iload 16, 2) := by decide +kernel
theorem dL_isSo_162 : decode cL_isSo 162 = .ok (.iconst 4, 1) := by decide +kernel
theorem dL_isSo_163 : decode cL_isSo 163 = .ok (.if_icmp .ge 59, 3) := by decide +kernel
theorem dL_isSo_166 : decode cL_isSo 166 = .ok (.iload 10, 2) := by decide +kernel
theorem dL_isSo_168 : decode cL_isSo 168 = .ok (.ifCond .eq 54, 3) := by decide +kernel
theorem dL_isSo_171 : decode cL_isSo 171 = .ok (.aload_n 0, 1) := by decide +kernel
theorem dL_isSo_172 : decode cL_isSo 172 = .ok (.iload 11, 2) := by decide +kernel
theorem dL_isSo_174 : decode cL_isSo 174 = .ok (.iload 14, 2) := by decide +kernel
theorem dL_isSo_176 : decode cL_isSo 176 = .ok (.iconst 1, 1) := by decide +kernel
theorem dL_isSo_177 : decode cL_isSo 177 = .ok (.iload 16, 2) := by decide +kernel
theorem dL_isSo_179 : decode cL_isSo 179 = .ok (.iadd, 1) := by decide +kernel
theorem dL_isSo_180 : decode cL_isSo 180 = .ok (.invokevirtual 61, 3) := by decide +kernel
theorem dL_isSo_183 : decode cL_isSo 183 = .ok (.i2l, 1) := by decide +kernel
theorem dL_isSo_184 : decode cL_isSo 184 = .ok (.iload 15, 2) := by decide +kernel
theorem dL_isSo_186 : decode cL_isSo 186 = .ok (.ifCond .eq 16, 3) := by decide +kernel
theorem dL_isSo_189 : decode cL_isSo 189 = .ok (.aload 6, 2) := by decide +kernel
theorem dL_isSo_191 : decode cL_isSo 191 = .ok (.iconst 4, 1) := by decide +kernel
theorem dL_isSo_192 : decode cL_isSo 192 = .ok (.iload 14, 2) := by decide +kernel
theorem dL_isSo_194 : decode cL_isSo 194 = .ok (.imul, 1) := by decide +kernel
theorem dL_isSo_195 : decode cL_isSo 195 = .ok (.iload 16, 2) := by decide +kernel
theorem dL_isSo_197 : decode cL_isSo 197 = .ok (.iadd, 1) := by decide +kernel
theorem dL_isSo_198 : decode cL_isSo 198 = .ok (.laload, 1) := by decide +kernel
theorem dL_isSo_199 : decode cL_isSo 199 = .ok (.goto 6, 3) := by decide +kernel
theorem dL_isSo_202 : decode cL_isSo 202 = .ok (.ldc2_w 99, 3) := by decide +kernel
theorem dL_isSo_205 : decode cL_isSo 205 = .ok (.lcmp, 1) := by decide +kernel
theorem dL_isSo_206 : decode cL_isSo 206 = .ok (.ifCond .ne 7, 3) := by decide +kernel
theorem dL_isSo_209 : decode cL_isSo 209 = .ok (.iconst 1, 1) := by decide +kernel
theorem dL_isSo_210 : decode cL_isSo 210 = .ok (.goto 4, 3) := by decide +kernel
theorem dL_isSo_213 : decode cL_isSo 213 = .ok (.iconst 0, 1) := by decide +kernel
theorem dL_isSo_214 : decode cL_isSo 214 = .ok (.istore 10, 2) := by decide +kernel
theorem dL_isSo_216 : decode cL_isSo 216 = .ok (.iinc 16 1, 3) := by decide +kernel
theorem dL_isSo_219 : decode cL_isSo 219 = .ok (.goto (-59), 3) := by decide +kernel
theorem dL_isSo_222 : decode cL_isSo 222 = .ok (.iinc 14 1, 3) := by decide +kernel
theorem dL_isSo_225 : decode cL_isSo 225 = .ok (.goto (-176), 3) := by decide +kernel
theorem dL_isSo_228 : decode cL_isSo 228 = .ok (.aload 5, 2) := by decide +kernel
theorem dL_isSo_230 : decode cL_isSo 230 = .ok (.iconst 2, 1) := by decide +kernel
theorem dL_isSo_231 : decode cL_isSo 231 = .ok (.laload, 1) := by decide +kernel
theorem dL_isSo_232 : decode cL_isSo 232 = .ok (.aload 5, 2) := by decide +kernel
theorem dL_isSo_234 : decode cL_isSo 234 = .ok (.iconst 4, 1) := by decide +kernel
theorem dL_isSo_235 : decode cL_isSo 235 = .ok (.laload, 1) := by decide +kernel
theorem dL_isSo_236 : decode cL_isSo 236 = .ok (.lmul, 1) := by decide +kernel
theorem dL_isSo_237 : decode cL_isSo 237 = .ok (.aload 5, 2) := by decide +kernel
theorem dL_isSo_239 : decode cL_isSo 239 = .ok (.iconst 3, 1) := by decide +kernel
theorem dL_isSo_240 : decode cL_isSo 240 = .ok (.laload, 1) := by decide +kernel
theorem dL_isSo_241 : decode cL_isSo 241 = .ok (.aload 5, 2) := by decide +kernel
theorem dL_isSo_243 : decode cL_isSo 243 = .ok (.iconst 3, 1) := by decide +kernel
theorem dL_isSo_244 : decode cL_isSo 244 = .ok (.laload, 1) := by decide +kernel
theorem dL_isSo_245 : decode cL_isSo 245 = .ok (.lmul, 1) := by decide +kernel
theorem dL_isSo_246 : decode cL_isSo 246 = .ok (.lsub, 1) := by decide +kernel
theorem dL_isSo_247 : decode cL_isSo 247 = .ok (.invokestatic 76, 3) := by decide +kernel
theorem dL_isSo_250 : decode cL_isSo 250 = .ok (.lstore 14, 2) := by decide +kernel
theorem dL_isSo_252 : decode cL_isSo 252 = .ok (.iconst 0, 1) := by decide +kernel
theorem dL_isSo_253 : decode cL_isSo 253 = .ok (.istore 16, 2) := by decide +kernel
theorem dL_isSo_255 : decode cL_isSo 255 = .ok (.iload 16, 2) := by decide +kernel
theorem dL_isSo_257 : decode cL_isSo 257 = .ok (.iconst 5, 1) := by decide +kernel
theorem dL_isSo_258 : decode cL_isSo 258 = .ok (.if_icmp .ge 39, 3) := by decide +kernel
theorem dL_isSo_261 : decode cL_isSo 261 = .ok (.iload 10, 2) := by decide +kernel
theorem dL_isSo_263 : decode cL_isSo 263 = .ok (.ifCond .eq 34, 3) := by decide +kernel
theorem dL_isSo_266 : decode cL_isSo 266 = .ok (.aload_n 0, 1) := by decide +kernel
theorem dL_isSo_267 : decode cL_isSo 267 = .ok (.iload 11, 2) := by decide +kernel
theorem dL_isSo_269 : decode cL_isSo 269 = .ok (.iload 16, 2) := by decide +kernel
theorem dL_isSo_271 : decode cL_isSo 271 = .ok (.invokevirtual 58, 3) := by decide +kernel
theorem dL_isSo_274 : decode cL_isSo 274 = .ok (.i2l, 1) := by decide +kernel
theorem dL_isSo_275 : decode cL_isSo 275 = .ok (.aload 5, 2) := by decide +kernel
theorem dL_isSo_277 : decode cL_isSo 277 = .ok (.iload 16, 2) := by decide +kernel
theorem dL_isSo_279 : decode cL_isSo 279 = .ok (.laload, 1) := by decide +kernel
theorem dL_isSo_280 : decode cL_isSo 280 = .ok (.lcmp, 1) := by decide +kernel
theorem dL_isSo_281 : decode cL_isSo 281 = .ok (.ifCond .ne 7, 3) := by decide +kernel
theorem dL_isSo_284 : decode cL_isSo 284 = .ok (.iconst 1, 1) := by decide +kernel
theorem dL_isSo_285 : decode cL_isSo 285 = .ok (.goto 4, 3) := by decide +kernel
theorem dL_isSo_288 : decode cL_isSo 288 = .ok (.iconst 0, 1) := by decide +kernel
theorem dL_isSo_289 : decode cL_isSo 289 = .ok (.istore 10, 2) := by decide +kernel
theorem dL_isSo_291 : decode cL_isSo 291 = .ok (.iinc 16 1, 3) := by decide +kernel
theorem dL_isSo_294 : decode cL_isSo 294 = .ok (.goto (-39), 3) := by decide +kernel
theorem dL_isSo_297 : decode cL_isSo 297 = .ok (.iload 10, 2) := by decide +kernel
theorem dL_isSo_299 : decode cL_isSo 299 = .ok (.ifCond .eq 70, 3) := by decide +kernel
theorem dL_isSo_302 : decode cL_isSo 302 = .ok (.aload_n 0, 1) := by decide +kernel
theorem dL_isSo_303 : decode cL_isSo 303 = .ok (.iload 11, 2) := by decide +kernel
theorem dL_isSo_305 : decode cL_isSo 305 = .ok (.iconst 5, 1) := by decide +kernel
theorem dL_isSo_306 : decode cL_isSo 306 = .ok (.invokevirtual 58, 3) := by decide +kernel
theorem dL_isSo_309 : decode cL_isSo 309 = .ok (.aload_n 1, 1) := by decide +kernel
theorem dL_isSo_310 : decode cL_isSo 310 = .ok (.iload 12, 2) := by decide +kernel
theorem dL_isSo_312 : decode cL_isSo 312 = .ok (.bipush 12, 2) := by decide +kernel
theorem dL_isSo_314 : decode cL_isSo 314 = .ok (.iadd, 1) := by decide +kernel
theorem dL_isSo_315 : decode cL_isSo 315 = .ok (.iaload, 1) := by decide +kernel
theorem dL_isSo_316 : decode cL_isSo 316 = .ok (.if_icmp .ne 53, 3) := by decide +kernel
theorem dL_isSo_319 : decode cL_isSo 319 = .ok (.aload_n 0, 1) := by decide +kernel
theorem dL_isSo_320 : decode cL_isSo 320 = .ok (.iload 11, 2) := by decide +kernel
theorem dL_isSo_322 : decode cL_isSo 322 = .ok (.bipush 6, 2) := by decide +kernel
theorem dL_isSo_324 : decode cL_isSo 324 = .ok (.invokevirtual 58, 3) := by decide +kernel
theorem dL_isSo_327 : decode cL_isSo 327 = .ok (.aload_n 1, 1) := by decide +kernel
theorem dL_isSo_328 : decode cL_isSo 328 = .ok (.iload 12, 2) := by decide +kernel
theorem dL_isSo_330 : decode cL_isSo 330 = .ok (.bipush 14, 2) := by decide +kernel
theorem dL_isSo_332 : decode cL_isSo 332 = .ok (.iadd, 1) := by decide +kernel
theorem dL_isSo_333 : decode cL_isSo 333 = .ok (.iaload, 1) := by decide +kernel
theorem dL_isSo_334 : decode cL_isSo 334 = .ok (.if_icmp .ne 35, 3) := by decide +kernel
theorem dL_isSo_337 : decode cL_isSo 337 = .ok (.aload_n 0, 1) := by decide +kernel
theorem dL_isSo_338 : decode cL_isSo 338 = .ok (.iload 11, 2) := by decide +kernel
theorem dL_isSo_340 : decode cL_isSo 340 = .ok (.bipush 7, 2) := by decide +kernel
theorem dL_isSo_342 : decode cL_isSo 342 = .ok (.invokevirtual 58, 3) := by decide +kernel
theorem dL_isSo_345 : decode cL_isSo 345 = .ok (.iload 13, 2) := by decide +kernel
theorem dL_isSo_347 : decode cL_isSo 347 = .ok (.if_icmp .ne 22, 3) := by decide +kernel
theorem dL_isSo_350 : decode cL_isSo 350 = .ok (.aload_n 0, 1) := by decide +kernel
theorem dL_isSo_351 : decode cL_isSo 351 = .ok (.iload 11, 2) := by decide +kernel
theorem dL_isSo_353 : decode cL_isSo 353 = .ok (.bipush 8, 2) := by decide +kernel
theorem dL_isSo_355 : decode cL_isSo 355 = .ok (.invokevirtual 58, 3) := by decide +kernel
theorem dL_isSo_358 : decode cL_isSo 358 = .ok (.i2l, 1) := by decide +kernel
theorem dL_isSo_359 : decode cL_isSo 359 = .ok (.lload 14, 2) := by decide +kernel
theorem dL_isSo_361 : decode cL_isSo 361 = .ok (.lcmp, 1) := by decide +kernel
theorem dL_isSo_362 : decode cL_isSo 362 = .ok (.ifCond .ne 7, 3) := by decide +kernel
theorem dL_isSo_365 : decode cL_isSo 365 = .ok (.iconst 1, 1) := by decide +kernel
theorem dL_isSo_366 : decode cL_isSo 366 = .ok (.goto 4, 3) := by decide +kernel
theorem dL_isSo_369 : decode cL_isSo 369 = .ok (.iconst 0, 1) := by decide +kernel
theorem dL_isSo_370 : decode cL_isSo 370 = .ok (.istore 10, 2) := by decide +kernel
theorem dL_isSo_372 : decode cL_isSo 372 = .ok (.iload 8, 2) := by decide +kernel
theorem dL_isSo_374 : decode cL_isSo 374 = .ok (.sipush 10007, 3) := by decide +kernel
theorem dL_isSo_377 : decode cL_isSo 377 = .ok (.irem, 1) := by decide +kernel
theorem dL_isSo_378 : decode cL_isSo 378 = .ok (.i2l, 1) := by decide +kernel
theorem dL_isSo_379 : decode cL_isSo 379 = .ok (.lstore 16, 2) := by decide +kernel
theorem dL_isSo_381 : decode cL_isSo 381 = .ok (.iload 9, 2) := by decide +kernel
theorem dL_isSo_383 : decode cL_isSo 383 = .ok (.sipush 10007, 3) := by decide +kernel
theorem dL_isSo_386 : decode cL_isSo 386 = .ok (.irem, 1) := by decide +kernel
theorem dL_isSo_387 : decode cL_isSo 387 = .ok (.i2l, 1) := by decide +kernel
theorem dL_isSo_388 : decode cL_isSo 388 = .ok (.lstore 18, 2) := by decide +kernel
theorem dL_isSo_390 : decode cL_isSo 390 = .ok (.aload 5, 2) := by decide +kernel
theorem dL_isSo_392 : decode cL_isSo 392 = .ok (.iconst 2, 1) := by decide +kernel
theorem dL_isSo_393 : decode cL_isSo 393 = .ok (.laload, 1) := by decide +kernel
theorem dL_isSo_394 : decode cL_isSo 394 = .ok (.lload 16, 2) := by decide +kernel
theorem dL_isSo_396 : decode cL_isSo 396 = .ok (.lmul, 1) := by decide +kernel
theorem dL_isSo_397 : decode cL_isSo 397 = .ok (.aload 5, 2) := by decide +kernel
theorem dL_isSo_399 : decode cL_isSo 399 = .ok (.iconst 3, 1) := by decide +kernel
theorem dL_isSo_400 : decode cL_isSo 400 = .ok (.laload, 1) := by decide +kernel
theorem dL_isSo_401 : decode cL_isSo 401 = .ok (.lload 18, 2) := by decide +kernel
theorem dL_isSo_403 : decode cL_isSo 403 = .ok (.lmul, 1) := by decide +kernel
theorem dL_isSo_404 : decode cL_isSo 404 = .ok (.ladd, 1) := by decide +kernel
theorem dL_isSo_405 : decode cL_isSo 405 = .ok (.invokestatic 76, 3) := by decide +kernel
theorem dL_isSo_408 : decode cL_isSo 408 = .ok (.lstore 20, 2) := by decide +kernel
theorem dL_isSo_410 : decode cL_isSo 410 = .ok (.aload 5, 2) := by decide +kernel
theorem dL_isSo_412 : decode cL_isSo 412 = .ok (.iconst 3, 1) := by decide +kernel
theorem dL_isSo_413 : decode cL_isSo 413 = .ok (.laload, 1) := by decide +kernel
theorem dL_isSo_414 : decode cL_isSo 414 = .ok (.lload 16, 2) := by decide +kernel
theorem dL_isSo_416 : decode cL_isSo 416 = .ok (.lmul, 1) := by decide +kernel
theorem dL_isSo_417 : decode cL_isSo 417 = .ok (.aload 5, 2) := by decide +kernel
theorem dL_isSo_419 : decode cL_isSo 419 = .ok (.iconst 4, 1) := by decide +kernel
theorem dL_isSo_420 : decode cL_isSo 420 = .ok (.laload, 1) := by decide +kernel
theorem dL_isSo_421 : decode cL_isSo 421 = .ok (.lload 18, 2) := by decide +kernel
theorem dL_isSo_423 : decode cL_isSo 423 = .ok (.lmul, 1) := by decide +kernel
theorem dL_isSo_424 : decode cL_isSo 424 = .ok (.ladd, 1) := by decide +kernel
theorem dL_isSo_425 : decode cL_isSo 425 = .ok (.invokestatic 76, 3) := by decide +kernel
theorem dL_isSo_428 : decode cL_isSo 428 = .ok (.lstore 22, 2) := by decide +kernel
theorem dL_isSo_430 : decode cL_isSo 430 = .ok (.iload 10, 2) := by decide +kernel
theorem dL_isSo_432 : decode cL_isSo 432 = .ok (.ifCond .eq 116, 3) := by decide +kernel
theorem dL_isSo_435 : decode cL_isSo 435 = .ok (.aload_n 0, 1) := by decide +kernel
theorem dL_isSo_436 : decode cL_isSo 436 = .ok (.bipush 8, 2) := by decide +kernel
theorem dL_isSo_438 : decode cL_isSo 438 = .ok (.iload 11, 2) := by decide +kernel
theorem dL_isSo_440 : decode cL_isSo 440 = .ok (.lload 16, 2) := by decide +kernel
theorem dL_isSo_442 : decode cL_isSo 442 = .ok (.l2i, 1) := by decide +kernel
theorem dL_isSo_443 : decode cL_isSo 443 = .ok (.lload 18, 2) := by decide +kernel
theorem dL_isSo_445 : decode cL_isSo 445 = .ok (.l2i, 1) := by decide +kernel
theorem dL_isSo_446 : decode cL_isSo 446 = .ok (.iload 8, 2) := by decide +kernel
theorem dL_isSo_448 : decode cL_isSo 448 = .ok (.iconst 5, 1) := by decide +kernel
theorem dL_isSo_449 : decode cL_isSo 449 = .ok (.idiv, 1) := by decide +kernel
theorem dL_isSo_450 : decode cL_isSo 450 = .ok (.sipush 10007, 3) := by decide +kernel
theorem dL_isSo_453 : decode cL_isSo 453 = .ok (.irem, 1) := by decide +kernel
theorem dL_isSo_454 : decode cL_isSo 454 = .ok (.iload 9, 2) := by decide +kernel
theorem dL_isSo_456 : decode cL_isSo 456 = .ok (.iconst 2, 1) := by decide +kernel
