theorem dL_isTold_0 : decode cL_isTold 0 = .ok (.iload 4, 2) := by decide +kernel
theorem dL_isTold_2 : decode cL_isTold 2 = .ok (.ifCond .ne 64, 3) := by decide +kernel
theorem dL_isTold_5 : decode cL_isTold 5 = .ok (.aload_n 3, 1) := by decide +kernel
theorem dL_isTold_6 : decode cL_isTold 6 = .ok (.iconst 0, 1) := by decide +kernel
theorem dL_isTold_7 : decode cL_isTold 7 = .ok (.iaload, 1) := by decide +kernel
theorem dL_isTold_8 : decode cL_isTold 8 = .ok (.iconst 3, 1) := by decide +kernel
theorem dL_isTold_9 : decode cL_isTold 9 = .ok (.if_icmp .ne 5, 3) := by decide +kernel
theorem dL_isTold_12 : decode cL_isTold 12 = .ok (.iconst 1, 1) := by decide +kernel
theorem dL_isTold_13 : decode cL_isTold 13 = .ok (.ireturn, 1) := by decide +kernel
theorem dL_isTold_14 : decode cL_isTold 14 = .ok (.aload_n 1, 1) := by decide +kernel
theorem dL_isTold_15 : decode cL_isTold 15 = .ok (.bipush 7, 2) := by decide +kernel
theorem dL_isTold_17 : decode cL_isTold 17 = .ok (.aload_n 3, 1) := by decide +kernel
theorem dL_isTold_18 : decode cL_isTold 18 = .ok (.iconst 0, 1) := by decide +kernel
theorem dL_isTold_19 : decode cL_isTold 19 = .ok (.iaload, 1) := by decide +kernel
theorem dL_isTold_20 : decode cL_isTold 20 = .ok (.imul, 1) := by decide +kernel
theorem dL_isTold_21 : decode cL_isTold 21 = .ok (.iconst 1, 1) := by decide +kernel
theorem dL_isTold_22 : decode cL_isTold 22 = .ok (.iastore, 1) := by decide +kernel
theorem dL_isTold_23 : decode cL_isTold 23 = .ok (.aload_n 1, 1) := by decide +kernel
theorem dL_isTold_24 : decode cL_isTold 24 = .ok (.bipush 7, 2) := by decide +kernel
theorem dL_isTold_26 : decode cL_isTold 26 = .ok (.aload_n 3, 1) := by decide +kernel
theorem dL_isTold_27 : decode cL_isTold 27 = .ok (.iconst 0, 1) := by decide +kernel
theorem dL_isTold_28 : decode cL_isTold 28 = .ok (.iaload, 1) := by decide +kernel
theorem dL_isTold_29 : decode cL_isTold 29 = .ok (.imul, 1) := by decide +kernel
theorem dL_isTold_30 : decode cL_isTold 30 = .ok (.iconst 3, 1) := by decide +kernel
theorem dL_isTold_31 : decode cL_isTold 31 = .ok (.iadd, 1) := by decide +kernel
theorem dL_isTold_32 : decode cL_isTold 32 = .ok (.iconst 1, 1) := by decide +kernel
theorem dL_isTold_33 : decode cL_isTold 33 = .ok (.iastore, 1) := by decide +kernel
theorem dL_isTold_34 : decode cL_isTold 34 = .ok (.aload_n 3, 1) := by decide +kernel
theorem dL_isTold_35 : decode cL_isTold 35 = .ok (.iconst 0, 1) := by decide +kernel
theorem dL_isTold_36 : decode cL_isTold 36 = .ok (.dup2, 1) := by decide +kernel
theorem dL_isTold_37 : decode cL_isTold 37 = .ok (.iaload, 1) := by decide +kernel
theorem dL_isTold_38 : decode cL_isTold 38 = .ok (.iconst 1, 1) := by decide +kernel
theorem dL_isTold_39 : decode cL_isTold 39 = .ok (.iadd, 1) := by decide +kernel
theorem dL_isTold_40 : decode cL_isTold 40 = .ok (.iastore, 1) := by decide +kernel
theorem dL_isTold_41 : decode cL_isTold 41 = .ok (.aload_n 0, 1) := by decide +kernel
theorem dL_isTold_42 : decode cL_isTold 42 = .ok (.iconst 0, 1) := by decide +kernel
theorem dL_isTold_43 : decode cL_isTold 43 = .ok (.iconst 0, 1) := by decide +kernel
theorem dL_isTold_44 : decode cL_isTold 44 = .ok (.iconst 0, 1) := by decide +kernel
theorem dL_isTold_45 : decode cL_isTold 45 = .ok (.iconst 0, 1) := by decide +kernel
theorem dL_isTold_46 : decode cL_isTold 46 = .ok (.iconst 0, 1) := by decide +kernel
theorem dL_isTold_47 : decode cL_isTold 47 = .ok (.iconst 0, 1) := by decide +kernel
theorem dL_isTold_48 : decode cL_isTold 48 = .ok (.iconst 0, 1) := by decide +kernel
theorem dL_isTold_49 : decode cL_isTold 49 = .ok (.invokestatic 101, 3) := by decide +kernel
theorem dL_isTold_52 : decode cL_isTold 52 = .ok (.aload_n 3, 1) := by decide +kernel
theorem dL_isTold_53 : decode cL_isTold 53 = .ok (.iconst 0, 1) := by decide +kernel
theorem dL_isTold_54 : decode cL_isTold 54 = .ok (.iaload, 1) := by decide +kernel
theorem dL_isTold_55 : decode cL_isTold 55 = .ok (.iconst 1, 1) := by decide +kernel
theorem dL_isTold_56 : decode cL_isTold 56 = .ok (.isub, 1) := by decide +kernel
theorem dL_isTold_57 : decode cL_isTold 57 = .ok (.if_icmp .ne 7, 3) := by decide +kernel
theorem dL_isTold_60 : decode cL_isTold 60 = .ok (.iconst 1, 1) := by decide +kernel
theorem dL_isTold_61 : decode cL_isTold 61 = .ok (.goto 4, 3) := by decide +kernel
theorem dL_isTold_64 : decode cL_isTold 64 = .ok (.iconst 0, 1) := by decide +kernel
theorem dL_isTold_65 : decode cL_isTold 65 = .ok (.ireturn, 1) := by decide +kernel
theorem dL_isTold_66 : decode cL_isTold 66 = .ok (.iload 5, 2) := by decide +kernel
theorem dL_isTold_68 : decode cL_isTold 68 = .ok (.aload_n 3, 1) := by decide +kernel
theorem dL_isTold_69 : decode cL_isTold 69 = .ok (.iconst 0, 1) := by decide +kernel
theorem dL_isTold_70 : decode cL_isTold 70 = .ok (.iaload, 1) := by decide +kernel
theorem dL_isTold_71 : decode cL_isTold 71 = .ok (.iconst 1, 1) := by decide +kernel
theorem dL_isTold_72 : decode cL_isTold 72 = .ok (.iadd, 1) := by decide +kernel
theorem dL_isTold_73 : decode cL_isTold 73 = .ok (.irem, 1) := by decide +kernel
theorem dL_isTold_74 : decode cL_isTold 74 = .ok (.istore 7, 2) := by decide +kernel
theorem dL_isTold_76 : decode cL_isTold 76 = .ok (.iload 4, 2) := by decide +kernel
theorem dL_isTold_78 : decode cL_isTold 78 = .ok (.iconst 1, 1) := by decide +kernel
theorem dL_isTold_79 : decode cL_isTold 79 = .ok (.if_icmp .ne 176, 3) := by decide +kernel
theorem dL_isTold_82 : decode cL_isTold 82 = .ok (.iload 6, 2) := by decide +kernel
theorem dL_isTold_84 : decode cL_isTold 84 = .ok (.bipush 8, 2) := by decide +kernel
theorem dL_isTold_86 : decode cL_isTold 86 = .ok (.irem, 1) := by decide +kernel
theorem dL_isTold_87 : decode cL_isTold 87 = .ok (.istore 8, 2) := by decide +kernel
theorem dL_isTold_89 : decode cL_isTold 89 = .ok (.iload 5, 2) := by decide +kernel
theorem dL_isTold_91 : decode cL_isTold 91 = .ok (.iconst 4, 1) := by decide +kernel
theorem dL_isTold_92 : decode cL_isTold 92 = .ok (.idiv, 1) := by decide +kernel
theorem dL_isTold_93 : decode cL_isTold 93 = .ok (.bipush 13, 2) := by decide +kernel
theorem dL_isTold_95 : decode cL_isTold 95 = .ok (.irem, 1) := by decide +kernel
theorem dL_isTold_96 : decode cL_isTold 96 = .ok (.bipush 12, 2) := by decide +kernel
theorem dL_isTold_98 : decode cL_isTold 98 = .ok (.if_icmp .ne 9, 3) := by decide +kernel
theorem dL_isTold_101 : decode cL_isTold 101 = .ok (.sipush 10007, 3) := by decide +kernel
theorem dL_isTold_104 : decode cL_isTold 104 = .ok (.goto 30, 3) := by decide +kernel
theorem dL_isTold_107 : decode cL_isTold 107 = .ok (.iload 5, 2) := by decide +kernel
theorem dL_isTold_109 : decode cL_isTold 109 = .ok (.iconst 4, 1) := by decide +kernel
theorem dL_isTold_110 : decode cL_isTold 110 = .ok (.idiv, 1) := by decide +kernel
theorem dL_isTold_111 : decode cL_isTold 111 = .ok (.iconst 3, 1) := by decide +kernel
theorem dL_isTold_112 : decode cL_isTold 112 = .ok (.irem, 1) := by decide +kernel
theorem dL_isTold_113 : decode cL_isTold 113 = .ok (.ifCond .ne 15, 3) := by decide +kernel
theorem dL_isTold_116 : decode cL_isTold 116 = .ok (.iload 5, 2) := by decide +kernel
theorem dL_isTold_118 : decode cL_isTold 118 = .ok (.bipush 12, 2) := by decide +kernel
theorem dL_isTold_120 : decode cL_isTold 120 = .ok (.idiv, 1) := by decide +kernel
theorem dL_isTold_121 : decode cL_isTold 121 = .ok (.sipush 10007, 3) := by decide +kernel
theorem dL_isTold_124 : decode cL_isTold 124 = .ok (.irem, 1) := by decide +kernel
theorem dL_isTold_125 : decode cL_isTold 125 = .ok (.goto 9, 3) := by decide +kernel
theorem dL_isTold_128 : decode cL_isTold 128 = .ok (.iload 5, 2) := by decide +kernel
theorem dL_isTold_130 : decode cL_isTold 130 = .ok (.iconst 4, 1) := by decide +kernel
theorem dL_isTold_131 : decode cL_isTold 131 = .ok (.idiv, 1) := by decide +kernel
theorem dL_isTold_132 : decode cL_isTold 132 = .ok (.iconst 5, 1) := by decide +kernel
theorem dL_isTold_133 : decode cL_isTold 133 = .ok (.irem, 1) := by decide +kernel
theorem dL_isTold_134 : decode cL_isTold 134 = .ok (.istore 9, 2) := by decide +kernel
theorem dL_isTold_136 : decode cL_isTold 136 = .ok (.iload 7, 2) := by decide +kernel
theorem dL_isTold_138 : decode cL_isTold 138 = .ok (.aload_n 3, 1) := by decide +kernel
theorem dL_isTold_139 : decode cL_isTold 139 = .ok (.iconst 0, 1) := by decide +kernel
theorem dL_isTold_140 : decode cL_isTold 140 = .ok (.iaload, 1) := by decide +kernel
theorem dL_isTold_141 : decode cL_isTold 141 = .ok (.if_icmp .ge 7, 3) := by decide +kernel
theorem dL_isTold_144 : decode cL_isTold 144 = .ok (.iconst 1, 1) := by decide +kernel
theorem dL_isTold_145 : decode cL_isTold 145 = .ok (.goto 4, 3) := by decide +kernel
theorem dL_isTold_148 : decode cL_isTold 148 = .ok (.iconst 0, 1) := by decide +kernel
theorem dL_isTold_149 : decode cL_isTold 149 = .ok (.istore 10, 2) := by decide +kernel
theorem dL_isTold_151 : decode cL_isTold 151 = .ok (.iload 8, 2) := by decide +kernel
theorem dL_isTold_153 : decode cL_isTold 153 = .ok (.bipush 7, 2) := by decide +kernel
theorem dL_isTold_155 : decode cL_isTold 155 = .ok (.if_icmp .ge 15, 3) := by decide +kernel
theorem dL_isTold_158 : decode cL_isTold 158 = .ok (.iload 9, 2) := by decide +kernel
theorem dL_isTold_160 : decode cL_isTold 160 = .ok (.sipush 10007, 3) := by decide +kernel
theorem dL_isTold_163 : decode cL_isTold 163 = .ok (.if_icmp .ge 7, 3) := by decide +kernel
theorem dL_isTold_166 : decode cL_isTold 166 = .ok (.iconst 1, 1) := by decide +kernel
theorem dL_isTold_167 : decode cL_isTold 167 = .ok (.goto 4, 3) := by decide +kernel
theorem dL_isTold_170 : decode cL_isTold 170 = .ok (.iconst 0, 1) := by decide +kernel
theorem dL_isTold_171 : decode cL_isTold 171 = .ok (.istore 11, 2) := by decide +kernel
theorem dL_isTold_173 : decode cL_isTold 173 = .ok (.iload 10, 2) := by decide +kernel
theorem dL_isTold_175 : decode cL_isTold 175 = .ok (.ifCond .eq 19, 3) := by decide +kernel
theorem dL_isTold_178 : decode cL_isTold 178 = .ok (.iload 11, 2) := by decide +kernel
theorem dL_isTold_180 : decode cL_isTold 180 = .ok (.ifCond .eq 14, 3) := by decide +kernel
theorem dL_isTold_183 : decode cL_isTold 183 = .ok (.bipush 7, 2) := by decide +kernel
theorem dL_isTold_185 : decode cL_isTold 185 = .ok (.iload 7, 2) := by decide +kernel
theorem dL_isTold_187 : decode cL_isTold 187 = .ok (.imul, 1) := by decide +kernel
theorem dL_isTold_188 : decode cL_isTold 188 = .ok (.iload 8, 2) := by decide +kernel
theorem dL_isTold_190 : decode cL_isTold 190 = .ok (.iadd, 1) := by decide +kernel
theorem dL_isTold_191 : decode cL_isTold 191 = .ok (.goto 5, 3) := by decide +kernel
theorem dL_isTold_194 : decode cL_isTold 194 = .ok (.bipush 21, 2) := by decide +kernel
theorem dL_isTold_196 : decode cL_isTold 196 = .ok (.istore 12, 2) := by decide +kernel
theorem dL_isTold_198 : decode cL_isTold 198 = .ok (.aload_n 1, 1) := by decide +kernel
theorem dL_isTold_199 : decode cL_isTold 199 = .ok (.iload 12, 2) := by decide +kernel
theorem dL_isTold_201 : decode cL_isTold 201 = .ok (.iaload, 1) := by decide +kernel
theorem dL_isTold_202 : decode cL_isTold 202 = .ok (.istore 13, 2) := by decide +kernel
theorem dL_isTold_204 : decode cL_isTold 204 = .ok (.aload_n 1, 1) := by decide +kernel
theorem dL_isTold_205 : decode cL_isTold 205 = .ok (.iload 12, 2) := by decide +kernel
theorem dL_isTold_207 : decode cL_isTold 207 = .ok (.iload 9, 2) := by decide +kernel
theorem dL_isTold_209 : decode cL_isTold 209 = .ok (.iastore, 1) := by decide +kernel
theorem dL_isTold_210 : decode cL_isTold 210 = .ok (.aload_n 0, 1) := by decide +kernel
theorem dL_isTold_211 : decode cL_isTold 211 = .ok (.iconst 1, 1) := by decide +kernel
theorem dL_isTold_212 : decode cL_isTold 212 = .ok (.iload 7, 2) := by decide +kernel
theorem dL_isTold_214 : decode cL_isTold 214 = .ok (.iload 8, 2) := by decide +kernel
theorem dL_isTold_216 : decode cL_isTold 216 = .ok (.iload 9, 2) := by decide +kernel
theorem dL_isTold_218 : decode cL_isTold 218 = .ok (.iconst 0, 1) := by decide +kernel
theorem dL_isTold_219 : decode cL_isTold 219 = .ok (.iconst 0, 1) := by decide +kernel
theorem dL_isTold_220 : decode cL_isTold 220 = .ok (.iconst 0, 1) := by decide +kernel
theorem dL_isTold_221 : decode cL_isTold 221 = .ok (.invokestatic 101, 3) := by decide +kernel
theorem dL_isTold_224 : decode cL_isTold 224 = .ok (.iload 10, 2) := by decide +kernel
theorem dL_isTold_226 : decode cL_isTold 226 = .ok (.ifCond .ne 8, 3) := by decide +kernel
theorem dL_isTold_229 : decode cL_isTold 229 = .ok (.bipush (-3), 2) := by decide +kernel
theorem dL_isTold_231 : decode cL_isTold 231 = .ok (.goto 15, 3) := by decide +kernel
theorem dL_isTold_234 : decode cL_isTold 234 = .ok (.iload 11, 2) := by decide +kernel
theorem dL_isTold_236 : decode cL_isTold 236 = .ok (.ifCond .eq 8, 3) := by decide +kernel
theorem dL_isTold_239 : decode cL_isTold 239 = .ok (.iload 13, 2) := by decide +kernel
theorem dL_isTold_241 : decode cL_isTold 241 = .ok (.goto 5, 3) := by decide +kernel
theorem dL_isTold_244 : decode cL_isTold 244 = .ok (.bipush (-2), 2) := by decide +kernel
theorem dL_isTold_246 : decode cL_isTold 246 = .ok (.if_icmp .ne 7, 3) := by decide +kernel
theorem dL_isTold_249 : decode cL_isTold 249 = .ok (.iconst 1, 1) := by decide +kernel
theorem dL_isTold_250 : decode cL_isTold 250 = .ok (.goto 4, 3) := by decide +kernel
theorem dL_isTold_253 : decode cL_isTold 253 = .ok (.iconst 0, 1) := by decide +kernel
theorem dL_isTold_254 : decode cL_isTold 254 = .ok (.ireturn, 1) := by decide +kernel
theorem dL_isTold_255 : decode cL_isTold 255 = .ok (.aload_n 3, 1) := by decide +kernel
theorem dL_isTold_256 : decode cL_isTold 256 = .ok (.iconst 1, 1) := by decide +kernel
theorem dL_isTold_257 : decode cL_isTold 257 = .ok (.iaload, 1) := by decide +kernel
theorem dL_isTold_258 : decode cL_isTold 258 = .ok (.iconst 2, 1) := by decide +kernel
theorem dL_isTold_259 : decode cL_isTold 259 = .ok (.if_icmp .ne 5, 3) := by decide +kernel
theorem dL_isTold_262 : decode cL_isTold 262 = .ok (.iconst 1, 1) := by decide +kernel
theorem dL_isTold_263 : decode cL_isTold 263 = .ok (.ireturn, 1) := by decide +kernel
theorem dL_isTold_264 : decode cL_isTold 264 = .ok (.iload 5, 2) := by decide +kernel
theorem dL_isTold_266 : decode cL_isTold 266 = .ok (.iconst 4, 1) := by decide +kernel
theorem dL_isTold_267 : decode cL_isTold 267 = .ok (.idiv, 1) := by decide +kernel
theorem dL_isTold_268 : decode cL_isTold 268 = .ok (.sipush 10007, 3) := by decide +kernel
theorem dL_isTold_271 : decode cL_isTold 271 = .ok (.irem, 1) := by decide +kernel
theorem dL_isTold_272 : decode cL_isTold 272 = .ok (.istore 8, 2) := by decide +kernel
theorem dL_isTold_274 : decode cL_isTold 274 = .ok (.iload 6, 2) := by decide +kernel
theorem dL_isTold_276 : decode cL_isTold 276 = .ok (.bipush 13, 2) := by decide +kernel
theorem dL_isTold_278 : decode cL_isTold 278 = .ok (.irem, 1) := by decide +kernel
theorem dL_isTold_279 : decode cL_isTold 279 = .ok (.bipush 12, 2) := by decide +kernel
theorem dL_isTold_281 : decode cL_isTold 281 = .ok (.if_icmp .ne 9, 3) := by decide +kernel
theorem dL_isTold_284 : decode cL_isTold 284 = .ok (.sipush 10007, 3) := by decide +kernel
theorem dL_isTold_287 : decode cL_isTold 287 = .ok (.goto 7, 3) := by decide +kernel
theorem dL_isTold_290 : decode cL_isTold 290 = .ok (.iload 6, 2) := by decide +kernel
theorem dL_isTold_292 : decode cL_isTold 292 = .ok (.iconst 5, 1) := by decide +kernel
theorem dL_isTold_293 : decode cL_isTold 293 = .ok (.irem, 1) := by decide +kernel
theorem dL_isTold_294 : decode cL_isTold 294 = .ok (.istore 9, 2) := by decide +kernel
theorem dL_isTold_296 : decode cL_isTold 296 = .ok (.iload 6, 2) := by decide +kernel
theorem dL_isTold_298 : decode cL_isTold 298 = .ok (.bipush 13, 2) := by decide +kernel
theorem dL_isTold_300 : decode cL_isTold 300 = .ok (.idiv, 1) := by decide +kernel
theorem dL_isTold_301 : decode cL_isTold 301 = .ok (.iconst 3, 1) := by decide +kernel
theorem dL_isTold_302 : decode cL_isTold 302 = .ok (.irem, 1) := by decide +kernel
theorem dL_isTold_303 : decode cL_isTold 303 = .ok (.istore 10, 2) := by decide +kernel
theorem dL_isTold_305 : decode cL_isTold 305 = .ok (.iload 6, 2) := by decide +kernel
theorem dL_isTold_307 : decode cL_isTold 307 = .ok (.bipush 39, 2) := by decide +kernel
theorem dL_isTold_309 : decode cL_isTold 309 = .ok (.idiv, 1) := by decide +kernel
theorem dL_isTold_310 : decode cL_isTold 310 = .ok (.bipush 7, 2) := by decide +kernel
theorem dL_isTold_312 : decode cL_isTold 312 = .ok (.irem, 1) := by decide +kernel
theorem dL_isTold_313 : decode cL_isTold 313 = .ok (.istore 11, 2) := by decide +kernel
theorem dL_isTold_315 : decode cL_isTold 315 = .ok (.iload 7, 2) := by decide +kernel
theorem dL_isTold_317 : decode cL_isTold 317 = .ok (.aload_n 3, 1) := by decide +kernel
theorem dL_isTold_318 : decode cL_isTold 318 = .ok (.iconst 0, 1) := by decide +kernel
theorem dL_isTold_319 : decode cL_isTold 319 = .ok (.iaload, 1) := by decide +kernel
theorem dL_isTold_320 : decode cL_isTold 320 = .ok (.if_icmp .ge 7, 3) := by decide +kernel
theorem dL_isTold_323 : decode cL_isTold 323 = .ok (.iconst 1, 1) := by decide +kernel
theorem dL_isTold_324 : decode cL_isTold 324 = .ok (.goto 4, 3) := by decide +kernel
theorem dL_isTold_327 : decode cL_isTold 327 = .ok (.iconst 0, 1) := by decide +kernel
theorem dL_isTold_328 : decode cL_isTold 328 = .ok (.istore 12, 2) := by decide +kernel
theorem dL_isTold_330 : decode cL_isTold 330 = .ok (.iload 12, 2) := by decide +kernel
theorem dL_isTold_332 : decode cL_isTold 332 = .ok (.ifCond .eq 118, 3) := by decide +kernel
theorem dL_isTold_335 : decode cL_isTold 335 = .ok (.iload 9, 2) := by decide +kernel
theorem dL_isTold_337 : decode cL_isTold 337 = .ok (.sipush 10007, 3) := by decide +kernel
theorem dL_isTold_340 : decode cL_isTold 340 = .ok (.if_icmp .ge 110, 3) := by decide +kernel
theorem dL_isTold_343 : decode cL_isTold 343 = .ok (.bipush 15, 2) := by decide +kernel
theorem dL_isTold_345 : decode cL_isTold 345 = .ok (.aload_n 3, 1) := by decide +kernel
theorem dL_isTold_346 : decode cL_isTold 346 = .ok (.iconst 1, 1) := by decide +kernel
theorem dL_isTold_347 : decode cL_isTold 347 = .ok (.iaload, 1) := by decide +kernel
theorem dL_isTold_348 : decode cL_isTold 348 = .ok (.imul, 1) := by decide +kernel
theorem dL_isTold_349 : decode cL_isTold 349 = .ok (.istore 13, 2) := by decide +kernel
theorem dL_isTold_351 : decode cL_isTold 351 = .ok (.iconst 0, 1) := by decide +kernel
theorem dL_isTold_352 : decode cL_isTold 352 = .ok (.istore 14, 2) := by decide +kernel
theorem dL_isTold_354 : decode cL_isTold 354 = .ok (.iload 14, 2) := by decide +kernel
theorem dL_isTold_356 : decode cL_isTold 356 = .ok (.bipush 7, 2) := by decide +kernel
theorem dL_isTold_358 : decode cL_isTold 358 = .ok (.if_icmp .ge 26, 3) := by decide +kernel
theorem dL_isTold_361 : decode cL_isTold 361 = .ok (.aload_n 2, 1) := by decide +kernel
theorem dL_isTold_362 : decode cL_isTold 362 = .ok (.iload 13, 2) := by decide +kernel
theorem dL_isTold_364 : decode cL_isTold 364 = .ok (.iload 14, 2) := by decide +kernel
theorem dL_isTold_366 : decode cL_isTold 366 = .ok (.iadd, 1) := by decide +kernel
theorem dL_isTold_367 : decode cL_isTold 367 = .ok (.aload_n 1, 1) := by decide +kernel
theorem dL_isTold_368 : decode cL_isTold 368 = .ok (.bipush 7, 2) := by decide +kernel
theorem dL_isTold_370 : decode cL_isTold 370 = .ok (.iload 7, 2) := by decide +kernel
theorem dL_isTold_372 : decode cL_isTold 372 = .ok (.imul, 1) := by decide +kernel
theorem dL_isTold_373 : decode cL_isTold 373 = .ok (.iload 14, 2) := by decide +kernel
theorem dL_isTold_375 : decode cL_isTold 375 = .ok (.iadd, 1) := by decide +kernel
theorem dL_isTold_376 : decode cL_isTold 376 = .ok (.iaload, 1) := by decide +kernel
theorem dL_isTold_377 : decode cL_isTold 377 = .ok (.iastore, 1) := by decide +kernel
theorem dL_isTold_378 : decode cL_isTold 378 = .ok (.iinc 14 1, 3) := by decide +kernel
theorem dL_isTold_381 : decode cL_isTold 381 = .ok (.goto (-27), 3) := by decide +kernel
theorem dL_isTold_384 : decode cL_isTold 384 = .ok (.aload_n 2, 1) := by decide +kernel
theorem dL_isTold_385 : decode cL_isTold 385 = .ok (.iload 13, 2) := by decide +kernel
theorem dL_isTold_387 : decode cL_isTold 387 = .ok (.bipush 7, 2) := by decide +kernel
theorem dL_isTold_389 : decode cL_isTold 389 = .ok (.iadd, 1) := by decide +kernel
theorem dL_isTold_390 : decode cL_isTold 390 = .ok (.iload 8, 2) := by decide +kernel
theorem dL_isTold_392 : decode cL_isTold 392 = .ok (.iastore, 1) := by decide +kernel
theorem dL_isTold_393 : decode cL_isTold 393 = .ok (.aload_n 2, 1) := by decide +kernel
theorem dL_isTold_394 : decode cL_isTold 394 = .ok (.iload 13, 2) := by decide +kernel
theorem dL_isTold_396 : decode cL_isTold 396 = .ok (.bipush 8, 2) := by decide +kernel
theorem dL_isTold_398 : decode cL_isTold 398 = .ok (.iadd, 1) := by decide +kernel
theorem dL_isTold_399 : decode cL_isTold 399 = .ok (.iload 6, 2) := by decide +kernel
theorem dL_isTold_401 : decode cL_isTold 401 = .ok (.sipush 10007, 3) := by decide +kernel
theorem dL_isTold_404 : decode cL_isTold 404 = .ok (.irem, 1) := by decide +kernel
theorem dL_isTold_405 : decode cL_isTold 405 = .ok (.iastore, 1) := by decide +kernel
theorem dL_isTold_406 : decode cL_isTold 406 = .ok (.aload_n 2, 1) := by decide +kernel
theorem dL_isTold_407 : decode cL_isTold 407 = .ok (.iload 13, 2) := by decide +kernel
theorem dL_isTold_409 : decode cL_isTold 409 = .ok (.bipush 9, 2) := by decide +kernel
theorem dL_isTold_411 : decode cL_isTold 411 = .ok (.iadd, 1) := by decide +kernel
theorem dL_isTold_412 : decode cL_isTold 412 = .ok (.iload 9, 2) := by decide +kernel
theorem dL_isTold_414 : decode cL_isTold 414 = .ok (.iastore, 1) := by decide +kernel
theorem dL_isTold_415 : decode cL_isTold 415 = .ok (.aload_n 2, 1) := by decide +kernel
theorem dL_isTold_416 : decode cL_isTold 416 = .ok (.iload 13, 2) := by decide +kernel
theorem dL_isTold_418 : decode cL_isTold 418 = .ok (.bipush 10, 2) := by decide +kernel
theorem dL_isTold_420 : decode cL_isTold 420 = .ok (.iadd, 1) := by decide +kernel
theorem dL_isTold_421 : decode cL_isTold 421 = .ok (.iload 10, 2) := by decide +kernel
theorem dL_isTold_423 : decode cL_isTold 423 = .ok (.iastore, 1) := by decide +kernel
theorem dL_isTold_424 : decode cL_isTold 424 = .ok (.aload_n 2, 1) := by decide +kernel
theorem dL_isTold_425 : decode cL_isTold 425 = .ok (.iload 13, 2) := by decide +kernel
theorem dL_isTold_427 : decode cL_isTold 427 = .ok (.bipush 11, 2) := by decide +kernel
theorem dL_isTold_429 : decode cL_isTold 429 = .ok (.iadd, 1) := by decide +kernel
theorem dL_isTold_430 : decode cL_isTold 430 = .ok (.iload 11, 2) := by decide +kernel
theorem dL_isTold_432 : decode cL_isTold 432 = .ok (.iastore, 1) := by decide +kernel
theorem dL_isTold_433 : decode cL_isTold 433 = .ok (.aload_n 2, 1) := by decide +kernel
theorem dL_isTold_434 : decode cL_isTold 434 = .ok (.iload 13, 2) := by decide +kernel
theorem dL_isTold_436 : decode cL_isTold 436 = .ok (.bipush 13, 2) := by decide +kernel
theorem dL_isTold_438 : decode cL_isTold 438 = .ok (.iadd, 1) := by decide +kernel
theorem dL_isTold_439 : decode cL_isTold 439 = .ok (.sipush 10006, 3) := by decide +kernel
theorem dL_isTold_442 : decode cL_isTold 442 = .ok (.iastore, 1) := by decide +kernel
theorem dL_isTold_443 : decode cL_isTold 443 = .ok (.aload_n 3, 1) := by decide +kernel
theorem dL_isTold_444 : decode cL_isTold 444 = .ok (.iconst 1, 1) := by decide +kernel
theorem dL_isTold_445 : decode cL_isTold 445 = .ok (.dup2, 1) := by decide +kernel
theorem dL_isTold_446 : decode cL_isTold 446 = .ok (.iaload, 1) := by decide +kernel
theorem dL_isTold_447 : decode cL_isTold 447 = .ok (.iconst 1, 1) := by decide +kernel
theorem dL_isTold_448 : decode cL_isTold 448 = .ok (.iadd, 1) := by decide +kernel
theorem dL_isTold_449 : decode cL_isTold 449 = .ok (.iastore, 1) := by decide +kernel
theorem dL_isTold_450 : decode cL_isTold 450 = .ok (.aload_n 0, 1) := by decide +kernel
theorem dL_isTold_451 : decode cL_isTold 451 = .ok (.iconst 2, 1) := by decide +kernel
theorem dL_isTold_452 : decode cL_isTold 452 = .ok (.iload 7, 2) := by decide +kernel
theorem dL_isTold_454 : decode cL_isTold 454 = .ok (.iload 8, 2) := by decide +kernel
theorem dL_isTold_456 : decode cL_isTold 456 = .ok (.iload 6, 2) := by decide +kernel
theorem dL_isTold_458 : decode cL_isTold 458 = .ok (.sipush 10007, 3) := by decide +kernel
theorem dL_isTold_461 : decode cL_isTold 461 = .ok (.irem, 1) := by decide +kernel
theorem dL_isTold_462 : decode cL_isTold 462 = .ok (.iload 9, 2) := by decide +kernel
theorem dL_isTold_464 : decode cL_isTold 464 = .ok (.iload 10, 2) := by decide +kernel
theorem dL_isTold_466 : decode cL_isTold 466 = .ok (.iload 11, 2) := by decide +kernel
theorem dL_isTold_468 : decode cL_isTold 468 = .ok (.invokestatic 101, 3) := by decide +kernel
theorem dL_isTold_471 : decode cL_isTold 471 = .ok (.iload 12, 2) := by decide +kernel
theorem dL_isTold_473 : decode cL_isTold 473 = .ok (.ifCond .ne 8, 3) := by decide +kernel
theorem dL_isTold_476 : decode cL_isTold 476 = .ok (.bipush (-3), 2) := by decide +kernel
theorem dL_isTold_478 : decode cL_isTold 478 = .ok (.goto 21, 3) := by decide +kernel
theorem dL_isTold_481 : decode cL_isTold 481 = .ok (.iload 9, 2) := by decide +kernel
theorem dL_isTold_483 : decode cL_isTold 483 = .ok (.sipush 10007, 3) := by decide +kernel
theorem dL_isTold_486 : decode cL_isTold 486 = .ok (.if_icmp .ge 11, 3) := by decide +kernel
theorem dL_isTold_489 : decode cL_isTold 489 = .ok (.aload_n 3, 1) := by decide +kernel
theorem dL_isTold_490 : decode cL_isTold 490 = .ok (.iconst 1, 1) := by decide +kernel
theorem dL_isTold_491 : decode cL_isTold 491 = .ok (.iaload, 1) := by decide +kernel
theorem dL_isTold_492 : decode cL_isTold 492 = .ok (.iconst 1, 1) := by decide +kernel
theorem dL_isTold_493 : decode cL_isTold 493 = .ok (.isub, 1) := by decide +kernel
theorem dL_isTold_494 : decode cL_isTold 494 = .ok (.goto 5, 3) := by decide +kernel
theorem dL_isTold_497 : decode cL_isTold 497 = .ok (.bipush (-2), 2) := by decide +kernel
theorem dL_isTold_499 : decode cL_isTold 499 = .ok (.if_icmp .ne 7, 3) := by decide +kernel
theorem dL_isTold_502 : decode cL_isTold 502 = .ok (.iconst 1, 1) := by decide +kernel
theorem dL_isTold_503 : decode cL_isTold 503 = .ok (.goto 4, 3) := by decide +kernel
theorem dL_isTold_506 : decode cL_isTold 506 = .ok (.iconst 0, 1) := by decide +kernel
theorem dL_isTold_507 : decode cL_isTold 507 = .ok (.ireturn, 1) := by decide +kernel
