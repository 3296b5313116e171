set_option maxRecDepth 20000 in
theorem ggX7_far_X7_goes : GoodIn wsX7_far wsX7_goes := goodIn_r _ [10, 5, 11, 12, 13, 14, 15, 16, 17, 18, 19, 20, 9, 21, 1, 22, 23, 24, 25, 26, 27, 28, 29, 30, 31, 32, 33, 34, 44, 45, 46, 47, 48, 49, 50, 51, 52, 53, 54, 55, 56, 57, 58, 59, 60, 61, 62, 63] rfl (by decide +kernel)
set_option maxRecDepth 20000 in
theorem gX7_far_X7_goes : GoodIn wsX7_far (wsV RX7 111 RX7 yX7_goes wsX7_goes) := goodIn_app (goodIn_of _ (by decide +kernel)) ggX7_far_X7_goes
set_option maxRecDepth 20000 in
theorem ggX7_far_X7_by : GoodIn wsX7_far wsX7_by := goodIn_r _ [24, 25] rfl (by decide +kernel)
set_option maxRecDepth 20000 in
theorem gX7_far_X7_by : GoodIn wsX7_far (va_wsS RX7 79 yX7_by wsX7_by) := goodIn_app (goodIn_of _ (by decide +kernel)) ggX7_far_X7_by
set_option maxRecDepth 20000 in
theorem ggX7_far_X7_raises : GoodIn wsX7_far wsX7_raises := goodIn_r _ [38, 4, 2, 39, 40, 41, 9, 42, 43, 22, 23, 24, 25, 44, 45, 46, 47, 48, 49, 50, 51, 52, 53, 54, 55, 56, 57, 58, 59, 60, 61, 62, 63] rfl (by decide +kernel)
set_option maxRecDepth 20000 in
theorem gX7_far_X7_raises : GoodIn wsX7_far (wsV RX7 134 RX7 yX7_raises wsX7_raises) := goodIn_app (goodIn_of _ (by decide +kernel)) ggX7_far_X7_raises
theorem dX7_far_0 : decode cX7_far 0 = .ok (.aload_n 0, 1) := by decide +kernel
theorem dX7_far_1 : decode cX7_far 1 = .ok (.iload_n 1, 1) := by decide +kernel
theorem dX7_far_2 : decode cX7_far 2 = .ok (.invokevirtual 111, 3) := by decide +kernel
theorem dX7_far_5 : decode cX7_far 5 = .ok (.istore 4, 2) := by decide +kernel
theorem dX7_far_7 : decode cX7_far 7 = .ok (.bipush 7, 2) := by decide +kernel
theorem dX7_far_9 : decode cX7_far 9 = .ok (.iload_n 1, 1) := by decide +kernel
theorem dX7_far_10 : decode cX7_far 10 = .ok (.imul, 1) := by decide +kernel
theorem dX7_far_11 : decode cX7_far 11 = .ok (.istore 5, 2) := by decide +kernel
theorem dX7_far_13 : decode cX7_far 13 = .ok (.aload_n 0, 1) := by decide +kernel
theorem dX7_far_14 : decode cX7_far 14 = .ok (.getfield 13, 3) := by decide +kernel
theorem dX7_far_17 : decode cX7_far 17 = .ok (.iload 5, 2) := by decide +kernel
theorem dX7_far_19 : decode cX7_far 19 = .ok (.iaload, 1) := by decide +kernel
theorem dX7_far_20 : decode cX7_far 20 = .ok (.i2l, 1) := by decide +kernel
theorem dX7_far_21 : decode cX7_far 21 = .ok (.lstore 6, 2) := by decide +kernel
theorem dX7_far_23 : decode cX7_far 23 = .ok (.aload_n 0, 1) := by decide +kernel
theorem dX7_far_24 : decode cX7_far 24 = .ok (.getfield 13, 3) := by decide +kernel
theorem dX7_far_27 : decode cX7_far 27 = .ok (.iload 5, 2) := by decide +kernel
theorem dX7_far_29 : decode cX7_far 29 = .ok (.iconst 1, 1) := by decide +kernel
theorem dX7_far_30 : decode cX7_far 30 = .ok (.iadd, 1) := by decide +kernel
theorem dX7_far_31 : decode cX7_far 31 = .ok (.iaload, 1) := by decide +kernel
theorem dX7_far_32 : decode cX7_far 32 = .ok (.i2l, 1) := by decide +kernel
theorem dX7_far_33 : decode cX7_far 33 = .ok (.lstore 8, 2) := by decide +kernel
theorem dX7_far_35 : decode cX7_far 35 = .ok (.aload_n 0, 1) := by decide +kernel
theorem dX7_far_36 : decode cX7_far 36 = .ok (.getfield 13, 3) := by decide +kernel
theorem dX7_far_39 : decode cX7_far 39 = .ok (.iload 5, 2) := by decide +kernel
theorem dX7_far_41 : decode cX7_far 41 = .ok (.iconst 2, 1) := by decide +kernel
theorem dX7_far_42 : decode cX7_far 42 = .ok (.iadd, 1) := by decide +kernel
theorem dX7_far_43 : decode cX7_far 43 = .ok (.iaload, 1) := by decide +kernel
theorem dX7_far_44 : decode cX7_far 44 = .ok (.i2l, 1) := by decide +kernel
theorem dX7_far_45 : decode cX7_far 45 = .ok (.lstore 10, 2) := by decide +kernel
theorem dX7_far_47 : decode cX7_far 47 = .ok (.aload_n 0, 1) := by decide +kernel
theorem dX7_far_48 : decode cX7_far 48 = .ok (.getfield 13, 3) := by decide +kernel
theorem dX7_far_51 : decode cX7_far 51 = .ok (.iload 5, 2) := by decide +kernel
theorem dX7_far_53 : decode cX7_far 53 = .ok (.iconst 3, 1) := by decide +kernel
theorem dX7_far_54 : decode cX7_far 54 = .ok (.iadd, 1) := by decide +kernel
theorem dX7_far_55 : decode cX7_far 55 = .ok (.iaload, 1) := by decide +kernel
theorem dX7_far_56 : decode cX7_far 56 = .ok (.i2l, 1) := by decide +kernel
theorem dX7_far_57 : decode cX7_far 57 = .ok (.lstore 12, 2) := by decide +kernel
theorem dX7_far_59 : decode cX7_far 59 = .ok (.iconst 0, 1) := by decide +kernel
theorem dX7_far_60 : decode cX7_far 60 = .ok (.istore 14, 2) := by decide +kernel
theorem dX7_far_62 : decode cX7_far 62 = .ok (.iload 14, 2) := by decide +kernel
theorem dX7_far_64 : decode cX7_far 64 = .ok (.bipush 16, 2) := by decide +kernel
theorem dX7_far_66 : decode cX7_far 66 = .ok (.if_icmp .ge 17, 3) := by decide +kernel
theorem dX7_far_69 : decode cX7_far 69 = .ok (.aload_n 0, 1) := by decide +kernel
theorem dX7_far_70 : decode cX7_far 70 = .ok (.getfield 54, 3) := by decide +kernel
theorem dX7_far_73 : decode cX7_far 73 = .ok (.iload 14, 2) := by decide +kernel
theorem dX7_far_75 : decode cX7_far 75 = .ok (.lconst 0, 1) := by decide +kernel
theorem dX7_far_76 : decode cX7_far 76 = .ok (.lastore, 1) := by decide +kernel
theorem dX7_far_77 : decode cX7_far 77 = .ok (.iinc 14 1, 3) := by decide +kernel
theorem dX7_far_80 : decode cX7_far 80 = .ok (.goto (-18), 3) := by decide +kernel
theorem dX7_far_83 : decode cX7_far 83 = .ok (.iload_n 3, 1) := by decide +kernel
theorem dX7_far_84 : decode cX7_far 84 = .ok (.iconst 2, 1) := by decide +kernel
theorem dX7_far_85 : decode cX7_far 85 = .ok (.if_icmp .ge 38, 3) := by decide +kernel
theorem dX7_far_88 : decode cX7_far 88 = .ok (.aload_n 0, 1) := by decide +kernel
theorem dX7_far_89 : decode cX7_far 89 = .ok (.getfield 54, 3) := by decide +kernel
theorem dX7_far_92 : decode cX7_far 92 = .ok (.iconst 0, 1) := by decide +kernel
theorem dX7_far_93 : decode cX7_far 93 = .ok (.lload 6, 2) := by decide +kernel
theorem dX7_far_95 : decode cX7_far 95 = .ok (.lastore, 1) := by decide +kernel
theorem dX7_far_96 : decode cX7_far 96 = .ok (.aload_n 0, 1) := by decide +kernel
theorem dX7_far_97 : decode cX7_far 97 = .ok (.getfield 54, 3) := by decide +kernel
theorem dX7_far_100 : decode cX7_far 100 = .ok (.iconst 1, 1) := by decide +kernel
theorem dX7_far_101 : decode cX7_far 101 = .ok (.lload 8, 2) := by decide +kernel
theorem dX7_far_103 : decode cX7_far 103 = .ok (.lastore, 1) := by decide +kernel
theorem dX7_far_104 : decode cX7_far 104 = .ok (.aload_n 0, 1) := by decide +kernel
theorem dX7_far_105 : decode cX7_far 105 = .ok (.getfield 54, 3) := by decide +kernel
theorem dX7_far_108 : decode cX7_far 108 = .ok (.iconst 4, 1) := by decide +kernel
theorem dX7_far_109 : decode cX7_far 109 = .ok (.lload 10, 2) := by decide +kernel
theorem dX7_far_111 : decode cX7_far 111 = .ok (.lastore, 1) := by decide +kernel
theorem dX7_far_112 : decode cX7_far 112 = .ok (.aload_n 0, 1) := by decide +kernel
theorem dX7_far_113 : decode cX7_far 113 = .ok (.getfield 54, 3) := by decide +kernel
theorem dX7_far_116 : decode cX7_far 116 = .ok (.iconst 5, 1) := by decide +kernel
theorem dX7_far_117 : decode cX7_far 117 = .ok (.lload 12, 2) := by decide +kernel
theorem dX7_far_119 : decode cX7_far 119 = .ok (.lastore, 1) := by decide +kernel
theorem dX7_far_120 : decode cX7_far 120 = .ok (.goto 179, 3) := by decide +kernel
theorem dX7_far_123 : decode cX7_far 123 = .ok (.aload_n 0, 1) := by decide +kernel
theorem dX7_far_124 : decode cX7_far 124 = .ok (.getfield 54, 3) := by decide +kernel
theorem dX7_far_127 : decode cX7_far 127 = .ok (.iconst 0, 1) := by decide +kernel
theorem dX7_far_128 : decode cX7_far 128 = .ok (.lload 6, 2) := by decide +kernel
theorem dX7_far_130 : decode cX7_far 130 = .ok (.lload 6, 2) := by decide +kernel
theorem dX7_far_132 : decode cX7_far 132 = .ok (.lmul, 1) := by decide +kernel
theorem dX7_far_133 : decode cX7_far 133 = .ok (.lastore, 1) := by decide +kernel
theorem dX7_far_134 : decode cX7_far 134 = .ok (.aload_n 0, 1) := by decide +kernel
theorem dX7_far_135 : decode cX7_far 135 = .ok (.getfield 54, 3) := by decide +kernel
theorem dX7_far_138 : decode cX7_far 138 = .ok (.iconst 1, 1) := by decide +kernel
theorem dX7_far_139 : decode cX7_far 139 = .ok (.ldc2_w 132, 3) := by decide +kernel
theorem dX7_far_142 : decode cX7_far 142 = .ok (.lload 6, 2) := by decide +kernel
theorem dX7_far_144 : decode cX7_far 144 = .ok (.lmul, 1) := by decide +kernel
theorem dX7_far_145 : decode cX7_far 145 = .ok (.lload 8, 2) := by decide +kernel
theorem dX7_far_147 : decode cX7_far 147 = .ok (.lmul, 1) := by decide +kernel
theorem dX7_far_148 : decode cX7_far 148 = .ok (.lastore, 1) := by decide +kernel
theorem dX7_far_149 : decode cX7_far 149 = .ok (.aload_n 0, 1) := by decide +kernel
theorem dX7_far_150 : decode cX7_far 150 = .ok (.getfield 54, 3) := by decide +kernel
theorem dX7_far_153 : decode cX7_far 153 = .ok (.iconst 2, 1) := by decide +kernel
theorem dX7_far_154 : decode cX7_far 154 = .ok (.lload 8, 2) := by decide +kernel
theorem dX7_far_156 : decode cX7_far 156 = .ok (.lload 8, 2) := by decide +kernel
theorem dX7_far_158 : decode cX7_far 158 = .ok (.lmul, 1) := by decide +kernel
theorem dX7_far_159 : decode cX7_far 159 = .ok (.lastore, 1) := by decide +kernel
theorem dX7_far_160 : decode cX7_far 160 = .ok (.aload_n 0, 1) := by decide +kernel
theorem dX7_far_161 : decode cX7_far 161 = .ok (.getfield 54, 3) := by decide +kernel
theorem dX7_far_164 : decode cX7_far 164 = .ok (.iconst 3, 1) := by decide +kernel
theorem dX7_far_165 : decode cX7_far 165 = .ok (.aload_n 0, 1) := by decide +kernel
theorem dX7_far_166 : decode cX7_far 166 = .ok (.getfield 13, 3) := by decide +kernel
theorem dX7_far_169 : decode cX7_far 169 = .ok (.iload 5, 2) := by decide +kernel
theorem dX7_far_171 : decode cX7_far 171 = .ok (.iconst 4, 1) := by decide +kernel
theorem dX7_far_172 : decode cX7_far 172 = .ok (.iadd, 1) := by decide +kernel
theorem dX7_far_173 : decode cX7_far 173 = .ok (.iaload, 1) := by decide +kernel
theorem dX7_far_174 : decode cX7_far 174 = .ok (.i2l, 1) := by decide +kernel
theorem dX7_far_175 : decode cX7_far 175 = .ok (.lastore, 1) := by decide +kernel
theorem dX7_far_176 : decode cX7_far 176 = .ok (.aload_n 0, 1) := by decide +kernel
theorem dX7_far_177 : decode cX7_far 177 = .ok (.getfield 54, 3) := by decide +kernel
theorem dX7_far_180 : decode cX7_far 180 = .ok (.iconst 4, 1) := by decide +kernel
theorem dX7_far_181 : decode cX7_far 181 = .ok (.lload 6, 2) := by decide +kernel
theorem dX7_far_183 : decode cX7_far 183 = .ok (.lload 10, 2) := by decide +kernel
theorem dX7_far_185 : decode cX7_far 185 = .ok (.lmul, 1) := by decide +kernel
theorem dX7_far_186 : decode cX7_far 186 = .ok (.lastore, 1) := by decide +kernel
theorem dX7_far_187 : decode cX7_far 187 = .ok (.aload_n 0, 1) := by decide +kernel
theorem dX7_far_188 : decode cX7_far 188 = .ok (.getfield 54, 3) := by decide +kernel
theorem dX7_far_191 : decode cX7_far 191 = .ok (.iconst 5, 1) := by decide +kernel
theorem dX7_far_192 : decode cX7_far 192 = .ok (.lload 6, 2) := by decide +kernel
theorem dX7_far_194 : decode cX7_far 194 = .ok (.lload 12, 2) := by decide +kernel
theorem dX7_far_196 : decode cX7_far 196 = .ok (.lmul, 1) := by decide +kernel
theorem dX7_far_197 : decode cX7_far 197 = .ok (.lload 8, 2) := by decide +kernel
theorem dX7_far_199 : decode cX7_far 199 = .ok (.lload 10, 2) := by decide +kernel
theorem dX7_far_201 : decode cX7_far 201 = .ok (.lmul, 1) := by decide +kernel
theorem dX7_far_202 : decode cX7_far 202 = .ok (.ladd, 1) := by decide +kernel
theorem dX7_far_203 : decode cX7_far 203 = .ok (.lastore, 1) := by decide +kernel
theorem dX7_far_204 : decode cX7_far 204 = .ok (.aload_n 0, 1) := by decide +kernel
theorem dX7_far_205 : decode cX7_far 205 = .ok (.getfield 54, 3) := by decide +kernel
theorem dX7_far_208 : decode cX7_far 208 = .ok (.bipush 6, 2) := by decide +kernel
theorem dX7_far_210 : decode cX7_far 210 = .ok (.lload 8, 2) := by decide +kernel
theorem dX7_far_212 : decode cX7_far 212 = .ok (.lload 12, 2) := by decide +kernel
theorem dX7_far_214 : decode cX7_far 214 = .ok (.lmul, 1) := by decide +kernel
theorem dX7_far_215 : decode cX7_far 215 = .ok (.lastore, 1) := by decide +kernel
theorem dX7_far_216 : decode cX7_far 216 = .ok (.aload_n 0, 1) := by decide +kernel
theorem dX7_far_217 : decode cX7_far 217 = .ok (.getfield 54, 3) := by decide +kernel
theorem dX7_far_220 : decode cX7_far 220 = .ok (.bipush 7, 2) := by decide +kernel
theorem dX7_far_222 : decode cX7_far 222 = .ok (.aload_n 0, 1) := by decide +kernel
theorem dX7_far_223 : decode cX7_far 223 = .ok (.getfield 13, 3) := by decide +kernel
theorem dX7_far_226 : decode cX7_far 226 = .ok (.iload 5, 2) := by decide +kernel
theorem dX7_far_228 : decode cX7_far 228 = .ok (.iconst 5, 1) := by decide +kernel
theorem dX7_far_229 : decode cX7_far 229 = .ok (.iadd, 1) := by decide +kernel
theorem dX7_far_230 : decode cX7_far 230 = .ok (.iaload, 1) := by decide +kernel
theorem dX7_far_231 : decode cX7_far 231 = .ok (.i2l, 1) := by decide +kernel
theorem dX7_far_232 : decode cX7_far 232 = .ok (.lastore, 1) := by decide +kernel
theorem dX7_far_233 : decode cX7_far 233 = .ok (.aload_n 0, 1) := by decide +kernel
theorem dX7_far_234 : decode cX7_far 234 = .ok (.getfield 54, 3) := by decide +kernel
theorem dX7_far_237 : decode cX7_far 237 = .ok (.bipush 8, 2) := by decide +kernel
theorem dX7_far_239 : decode cX7_far 239 = .ok (.lload 10, 2) := by decide +kernel
theorem dX7_far_241 : decode cX7_far 241 = .ok (.lload 10, 2) := by decide +kernel
theorem dX7_far_243 : decode cX7_far 243 = .ok (.lmul, 1) := by decide +kernel
theorem dX7_far_244 : decode cX7_far 244 = .ok (.lastore, 1) := by decide +kernel
theorem dX7_far_245 : decode cX7_far 245 = .ok (.aload_n 0, 1) := by decide +kernel
theorem dX7_far_246 : decode cX7_far 246 = .ok (.getfield 54, 3) := by decide +kernel
theorem dX7_far_249 : decode cX7_far 249 = .ok (.bipush 9, 2) := by decide +kernel
theorem dX7_far_251 : decode cX7_far 251 = .ok (.ldc2_w 132, 3) := by decide +kernel
theorem dX7_far_254 : decode cX7_far 254 = .ok (.lload 10, 2) := by decide +kernel
theorem dX7_far_256 : decode cX7_far 256 = .ok (.lmul, 1) := by decide +kernel
theorem dX7_far_257 : decode cX7_far 257 = .ok (.lload 12, 2) := by decide +kernel
theorem dX7_far_259 : decode cX7_far 259 = .ok (.lmul, 1) := by decide +kernel
theorem dX7_far_260 : decode cX7_far 260 = .ok (.lastore, 1) := by decide +kernel
theorem dX7_far_261 : decode cX7_far 261 = .ok (.aload_n 0, 1) := by decide +kernel
theorem dX7_far_262 : decode cX7_far 262 = .ok (.getfield 54, 3) := by decide +kernel
theorem dX7_far_265 : decode cX7_far 265 = .ok (.bipush 10, 2) := by decide +kernel
theorem dX7_far_267 : decode cX7_far 267 = .ok (.lload 12, 2) := by decide +kernel
theorem dX7_far_269 : decode cX7_far 269 = .ok (.lload 12, 2) := by decide +kernel
theorem dX7_far_271 : decode cX7_far 271 = .ok (.lmul, 1) := by decide +kernel
theorem dX7_far_272 : decode cX7_far 272 = .ok (.lastore, 1) := by decide +kernel
theorem dX7_far_273 : decode cX7_far 273 = .ok (.aload_n 0, 1) := by decide +kernel
theorem dX7_far_274 : decode cX7_far 274 = .ok (.getfield 54, 3) := by decide +kernel
theorem dX7_far_277 : decode cX7_far 277 = .ok (.bipush 11, 2) := by decide +kernel
theorem dX7_far_279 : decode cX7_far 279 = .ok (.aload_n 0, 1) := by decide +kernel
theorem dX7_far_280 : decode cX7_far 280 = .ok (.getfield 13, 3) := by decide +kernel
theorem dX7_far_283 : decode cX7_far 283 = .ok (.iload 5, 2) := by decide +kernel
theorem dX7_far_285 : decode cX7_far 285 = .ok (.bipush 6, 2) := by decide +kernel
theorem dX7_far_287 : decode cX7_far 287 = .ok (.iadd, 1) := by decide +kernel
theorem dX7_far_288 : decode cX7_far 288 = .ok (.iaload, 1) := by decide +kernel
theorem dX7_far_289 : decode cX7_far 289 = .ok (.i2l, 1) := by decide +kernel
theorem dX7_far_290 : decode cX7_far 290 = .ok (.lastore, 1) := by decide +kernel
theorem dX7_far_291 : decode cX7_far 291 = .ok (.aload_n 0, 1) := by decide +kernel
theorem dX7_far_292 : decode cX7_far 292 = .ok (.getfield 54, 3) := by decide +kernel
theorem dX7_far_295 : decode cX7_far 295 = .ok (.bipush 15, 2) := by decide +kernel
theorem dX7_far_297 : decode cX7_far 297 = .ok (.lconst 1, 1) := by decide +kernel
theorem dX7_far_298 : decode cX7_far 298 = .ok (.lastore, 1) := by decide +kernel
theorem dX7_far_299 : decode cX7_far 299 = .ok (.iconst 0, 1) := by decide +kernel
theorem dX7_far_300 : decode cX7_far 300 = .ok (.istore 14, 2) := by decide +kernel
theorem dX7_far_302 : decode cX7_far 302 = .ok (.iload 14, 2) := by decide +kernel
theorem dX7_far_304 : decode cX7_far 304 = .ok (.bipush 16, 2) := by decide +kernel
theorem dX7_far_306 : decode cX7_far 306 = .ok (.if_icmp .ge 26, 3) := by decide +kernel
theorem dX7_far_309 : decode cX7_far 309 = .ok (.aload_n 0, 1) := by decide +kernel
theorem dX7_far_310 : decode cX7_far 310 = .ok (.getfield 54, 3) := by decide +kernel
theorem dX7_far_313 : decode cX7_far 313 = .ok (.iload 14, 2) := by decide +kernel
theorem dX7_far_315 : decode cX7_far 315 = .ok (.aload_n 0, 1) := by decide +kernel
theorem dX7_far_316 : decode cX7_far 316 = .ok (.getfield 54, 3) := by decide +kernel
theorem dX7_far_319 : decode cX7_far 319 = .ok (.iload 14, 2) := by decide +kernel
theorem dX7_far_321 : decode cX7_far 321 = .ok (.laload, 1) := by decide +kernel
theorem dX7_far_322 : decode cX7_far 322 = .ok (.invokestatic 79, 3) := by decide +kernel
theorem dX7_far_325 : decode cX7_far 325 = .ok (.lastore, 1) := by decide +kernel
theorem dX7_far_326 : decode cX7_far 326 = .ok (.iinc 14 1, 3) := by decide +kernel
theorem dX7_far_329 : decode cX7_far 329 = .ok (.goto (-27), 3) := by decide +kernel
theorem dX7_far_332 : decode cX7_far 332 = .ok (.aload_n 0, 1) := by decide +kernel
theorem dX7_far_333 : decode cX7_far 333 = .ok (.iload_n 2, 1) := by decide +kernel
theorem dX7_far_334 : decode cX7_far 334 = .ok (.invokevirtual 134, 3) := by decide +kernel
theorem dX7_far_337 : decode cX7_far 337 = .ok (.iload_n 3, 1) := by decide +kernel
theorem dX7_far_338 : decode cX7_far 338 = .ok (.iconst 2, 1) := by decide +kernel
theorem dX7_far_339 : decode cX7_far 339 = .ok (.if_icmp .ge 9, 3) := by decide +kernel
theorem dX7_far_342 : decode cX7_far 342 = .ok (.iconst 4, 1) := by decide +kernel
theorem dX7_far_343 : decode cX7_far 343 = .ok (.iload_n 3, 1) := by decide +kernel
theorem dX7_far_344 : decode cX7_far 344 = .ok (.imul, 1) := by decide +kernel
theorem dX7_far_345 : decode cX7_far 345 = .ok (.goto 8, 3) := by decide +kernel
theorem dX7_far_348 : decode cX7_far 348 = .ok (.iconst 4, 1) := by decide +kernel
theorem dX7_far_349 : decode cX7_far 349 = .ok (.iload_n 3, 1) := by decide +kernel
theorem dX7_far_350 : decode cX7_far 350 = .ok (.iconst 2, 1) := by decide +kernel
theorem dX7_far_351 : decode cX7_far 351 = .ok (.isub, 1) := by decide +kernel
theorem dX7_far_352 : decode cX7_far 352 = .ok (.imul, 1) := by decide +kernel
theorem dX7_far_353 : decode cX7_far 353 = .ok (.istore 14, 2) := by decide +kernel
theorem dX7_far_355 : decode cX7_far 355 = .ok (.iload_n 3, 1) := by decide +kernel
theorem dX7_far_356 : decode cX7_far 356 = .ok (.iconst 2, 1) := by decide +kernel
theorem dX7_far_357 : decode cX7_far 357 = .ok (.if_icmp .ge 7, 3) := by decide +kernel
theorem dX7_far_360 : decode cX7_far 360 = .ok (.iconst 0, 1) := by decide +kernel
theorem dX7_far_361 : decode cX7_far 361 = .ok (.goto 4, 3) := by decide +kernel
theorem dX7_far_364 : decode cX7_far 364 = .ok (.iconst 2, 1) := by decide +kernel
theorem dX7_far_365 : decode cX7_far 365 = .ok (.istore 15, 2) := by decide +kernel
theorem dX7_far_367 : decode cX7_far 367 = .ok (.iload_n 3, 1) := by decide +kernel
theorem dX7_far_368 : decode cX7_far 368 = .ok (.iconst 2, 1) := by decide +kernel
theorem dX7_far_369 : decode cX7_far 369 = .ok (.if_icmp .ge 7, 3) := by decide +kernel
theorem dX7_far_372 : decode cX7_far 372 = .ok (.lconst 0, 1) := by decide +kernel
theorem dX7_far_373 : decode cX7_far 373 = .ok (.goto 12, 3) := by decide +kernel
theorem dX7_far_376 : decode cX7_far 376 = .ok (.aload_n 0, 1) := by decide +kernel
theorem dX7_far_377 : decode cX7_far 377 = .ok (.getfield 57, 3) := by decide +kernel
theorem dX7_far_380 : decode cX7_far 380 = .ok (.iload 14, 2) := by decide +kernel
theorem dX7_far_382 : decode cX7_far 382 = .ok (.iconst 3, 1) := by decide +kernel
theorem dX7_far_383 : decode cX7_far 383 = .ok (.iadd, 1) := by decide +kernel
theorem dX7_far_384 : decode cX7_far 384 = .ok (.laload, 1) := by decide +kernel
theorem dX7_far_385 : decode cX7_far 385 = .ok (.lstore 16, 2) := by decide +kernel
theorem dX7_far_387 : decode cX7_far 387 = .ok (.iconst 0, 1) := by decide +kernel
theorem dX7_far_388 : decode cX7_far 388 = .ok (.istore 18, 2) := by decide +kernel
theorem dX7_far_390 : decode cX7_far 390 = .ok (.iload 18, 2) := by decide +kernel
theorem dX7_far_392 : decode cX7_far 392 = .ok (.iload_n 3, 1) := by decide +kernel
theorem dX7_far_393 : decode cX7_far 393 = .ok (.iconst 2, 1) := by decide +kernel
theorem dX7_far_394 : decode cX7_far 394 = .ok (.if_icmp .ge 7, 3) := by decide +kernel
theorem dX7_far_397 : decode cX7_far 397 = .ok (.iconst 2, 1) := by decide +kernel
theorem dX7_far_398 : decode cX7_far 398 = .ok (.goto 4, 3) := by decide +kernel
theorem dX7_far_401 : decode cX7_far 401 = .ok (.iconst 3, 1) := by decide +kernel
theorem dX7_far_402 : decode cX7_far 402 = .ok (.if_icmp .ge 35, 3) := by decide +kernel
theorem dX7_far_405 : decode cX7_far 405 = .ok (.lload 16, 2) := by decide +kernel
theorem dX7_far_407 : decode cX7_far 407 = .ok (.aload_n 0, 1) := by decide +kernel
theorem dX7_far_408 : decode cX7_far 408 = .ok (.getfield 57, 3) := by decide +kernel
theorem dX7_far_411 : decode cX7_far 411 = .ok (.iload 14, 2) := by decide +kernel
theorem dX7_far_413 : decode cX7_far 413 = .ok (.iload 18, 2) := by decide +kernel
theorem dX7_far_415 : decode cX7_far 415 = .ok (.iadd, 1) := by decide +kernel
theorem dX7_far_416 : decode cX7_far 416 = .ok (.laload, 1) := by decide +kernel
theorem dX7_far_417 : decode cX7_far 417 = .ok (.aload_n 0, 1) := by decide +kernel
theorem dX7_far_418 : decode cX7_far 418 = .ok (.getfield 48, 3) := by decide +kernel
theorem dX7_far_421 : decode cX7_far 421 = .ok (.iload 15, 2) := by decide +kernel
theorem dX7_far_423 : decode cX7_far 423 = .ok (.iload 18, 2) := by decide +kernel
theorem dX7_far_425 : decode cX7_far 425 = .ok (.iadd, 1) := by decide +kernel
theorem dX7_far_426 : decode cX7_far 426 = .ok (.laload, 1) := by decide +kernel
theorem dX7_far_427 : decode cX7_far 427 = .ok (.lmul, 1) := by decide +kernel
theorem dX7_far_428 : decode cX7_far 428 = .ok (.ladd, 1) := by decide +kernel
theorem dX7_far_429 : decode cX7_far 429 = .ok (.lstore 16, 2) := by decide +kernel
theorem dX7_far_431 : decode cX7_far 431 = .ok (.iinc 18 1, 3) := by decide +kernel
theorem dX7_far_434 : decode cX7_far 434 = .ok (.goto (-44), 3) := by decide +kernel
theorem dX7_far_437 : decode cX7_far 437 = .ok (.lload 16, 2) := by decide +kernel
theorem dX7_far_439 : decode cX7_far 439 = .ok (.invokestatic 79, 3) := by decide +kernel
theorem dX7_far_442 : decode cX7_far 442 = .ok (.l2i, 1) := by decide +kernel
theorem dX7_far_443 : decode cX7_far 443 = .ok (.ireturn, 1) := by decide +kernel
set_option maxRecDepth 20000 in
theorem ggX7_ahead_X7_isIn : GoodIn wsX7_ahead wsX7_isIn := goodIn_r _ [5] rfl (by decide +kernel)
set_option maxRecDepth 20000 in
theorem gX7_ahead_X7_isIn : GoodIn wsX7_ahead (va_wsS RX7 67 yX7_isIn wsX7_isIn) := goodIn_app (goodIn_of _ (by decide +kernel)) ggX7_ahead_X7_isIn
set_option maxRecDepth 20000 in
theorem ggX7_ahead_X7_isOne : GoodIn wsX7_ahead wsX7_isOne := goodIn_r _ [9, 10, 2, 3, 4, 5, 62, 63, 64, 65, 66, 67, 68, 69, 70, 71, 72, 73, 74, 75, 76, 77, 78, 79, 80, 81] rfl (by decide +kernel)
set_option maxRecDepth 20000 in
theorem gX7_ahead_X7_isOne : GoodIn wsX7_ahead (wsV RX7 93 RX7 yX7_isOne wsX7_isOne) := goodIn_app (goodIn_of _ (by decide +kernel)) ggX7_ahead_X7_isOne
set_option maxRecDepth 20000 in
theorem ggX7_ahead_X7_fails : GoodIn wsX7_ahead wsX7_fails := goodIn_r _ [14, 15, 62, 63, 64, 65, 66, 67, 68, 69, 70, 71, 72, 73, 74, 75, 76, 77, 78, 79, 80, 81] rfl (by decide +kernel)
set_option maxRecDepth 20000 in
theorem gX7_ahead_X7_fails : GoodIn wsX7_ahead (wsV RX7 83 RX7 yX7_fails wsX7_fails) := goodIn_app (goodIn_of _ (by decide +kernel)) ggX7_ahead_X7_fails
set_option maxRecDepth 20000 in
theorem ggX7_ahead_X7_far : GoodIn wsX7_ahead wsX7_far := goodIn_r _ [19, 20, 21, 22, 23, 24, 25, 26, 27, 4, 28, 29, 30, 31, 32, 33, 34, 35, 36, 37, 38, 39, 40, 41, 42, 43, 44, 45, 46, 47, 48, 49, 50, 51, 52, 53, 54, 55, 56, 57, 58, 59, 60, 61, 62, 63, 64, 65, 66, 67, 68, 69, 70, 71, 72, 73, 74, 75, 76, 77, 78, 79, 80, 81] rfl (by decide +kernel)
set_option maxRecDepth 20000 in
theorem gX7_ahead_X7_far : GoodIn wsX7_ahead (wsV RX7 138 RX7 yX7_far wsX7_far) := goodIn_app (goodIn_of _ (by decide +kernel)) ggX7_ahead_X7_far
theorem dX7_ahead_0 : decode cX7_ahead 0 = .ok (.iload_n 2, 1) := by decide +kernel
theorem dX7_ahead_1 : decode cX7_ahead 1 = .ok (.iconst 0, 1) := by decide +kernel
theorem dX7_ahead_2 : decode cX7_ahead 2 = .ok (.ldc 137, 2) := by decide +kernel
theorem dX7_ahead_4 : decode cX7_ahead 4 = .ok (.invokestatic 67, 3) := by decide +kernel
theorem dX7_ahead_7 : decode cX7_ahead 7 = .ok (.ifCond .eq 16, 3) := by decide +kernel
theorem dX7_ahead_10 : decode cX7_ahead 10 = .ok (.iload_n 3, 1) := by decide +kernel
theorem dX7_ahead_11 : decode cX7_ahead 11 = .ok (.iconst 0, 1) := by decide +kernel
theorem dX7_ahead_12 : decode cX7_ahead 12 = .ok (.iconst 4, 1) := by decide +kernel
theorem dX7_ahead_13 : decode cX7_ahead 13 = .ok (.invokestatic 67, 3) := by decide +kernel
theorem dX7_ahead_16 : decode cX7_ahead 16 = .ok (.ifCond .eq 7, 3) := by decide +kernel
theorem dX7_ahead_19 : decode cX7_ahead 19 = .ok (.iconst 1, 1) := by decide +kernel
theorem dX7_ahead_20 : decode cX7_ahead 20 = .ok (.goto 4, 3) := by decide +kernel
theorem dX7_ahead_23 : decode cX7_ahead 23 = .ok (.iconst 0, 1) := by decide +kernel
theorem dX7_ahead_24 : decode cX7_ahead 24 = .ok (.istore 4, 2) := by decide +kernel
theorem dX7_ahead_26 : decode cX7_ahead 26 = .ok (.aload_n 0, 1) := by decide +kernel
theorem dX7_ahead_27 : decode cX7_ahead 27 = .ok (.aload_n 0, 1) := by decide +kernel
theorem dX7_ahead_28 : decode cX7_ahead 28 = .ok (.iload_n 1, 1) := by decide +kernel
theorem dX7_ahead_29 : decode cX7_ahead 29 = .ok (.invokevirtual 93, 3) := by decide +kernel
theorem dX7_ahead_32 : decode cX7_ahead 32 = .ok (.ifCond .ne 7, 3) := by decide +kernel
theorem dX7_ahead_35 : decode cX7_ahead 35 = .ok (.iconst 1, 1) := by decide +kernel
theorem dX7_ahead_36 : decode cX7_ahead 36 = .ok (.goto 13, 3) := by decide +kernel
theorem dX7_ahead_39 : decode cX7_ahead 39 = .ok (.iload 4, 2) := by decide +kernel
theorem dX7_ahead_41 : decode cX7_ahead 41 = .ok (.ifCond .eq 7, 3) := by decide +kernel
theorem dX7_ahead_44 : decode cX7_ahead 44 = .ok (.iconst 0, 1) := by decide +kernel
theorem dX7_ahead_45 : decode cX7_ahead 45 = .ok (.goto 4, 3) := by decide +kernel
theorem dX7_ahead_48 : decode cX7_ahead 48 = .ok (.iconst 2, 1) := by decide +kernel
theorem dX7_ahead_49 : decode cX7_ahead 49 = .ok (.invokevirtual 83, 3) := by decide +kernel
theorem dX7_ahead_52 : decode cX7_ahead 52 = .ok (.ifCond .eq 7, 3) := by decide +kernel
theorem dX7_ahead_55 : decode cX7_ahead 55 = .ok (.iconst 0, 1) := by decide +kernel
theorem dX7_ahead_56 : decode cX7_ahead 56 = .ok (.goto 10, 3) := by decide +kernel
theorem dX7_ahead_59 : decode cX7_ahead 59 = .ok (.aload_n 0, 1) := by decide +kernel
theorem dX7_ahead_60 : decode cX7_ahead 60 = .ok (.iload_n 1, 1) := by decide +kernel
theorem dX7_ahead_61 : decode cX7_ahead 61 = .ok (.iload_n 2, 1) := by decide +kernel
theorem dX7_ahead_62 : decode cX7_ahead 62 = .ok (.iload_n 3, 1) := by decide +kernel
theorem dX7_ahead_63 : decode cX7_ahead 63 = .ok (.invokevirtual 138, 3) := by decide +kernel
theorem dX7_ahead_66 : decode cX7_ahead 66 = .ok (.ireturn, 1) := by decide +kernel
set_option maxRecDepth 20000 in
theorem ggX7_aheadAnew_X7_isIn : GoodIn wsX7_aheadAnew wsX7_isIn := goodIn_r _ [4] rfl (by decide +kernel)
set_option maxRecDepth 20000 in
theorem gX7_aheadAnew_X7_isIn : GoodIn wsX7_aheadAnew (va_wsS RX7 67 yX7_isIn wsX7_isIn) := goodIn_app (goodIn_of _ (by decide +kernel)) ggX7_aheadAnew_X7_isIn
set_option maxRecDepth 20000 in
theorem ggX7_aheadAnew_X7_isOne : GoodIn wsX7_aheadAnew wsX7_isOne := goodIn_r _ [8, 9, 1, 2, 3, 4, 61, 62, 63, 64, 65, 66, 67, 68, 69, 70, 71, 72, 73, 74, 75, 76, 77, 78, 79, 80] rfl (by decide +kernel)
set_option maxRecDepth 20000 in
theorem gX7_aheadAnew_X7_isOne : GoodIn wsX7_aheadAnew (wsV RX7 93 RX7 yX7_isOne wsX7_isOne) := goodIn_app (goodIn_of _ (by decide +kernel)) ggX7_aheadAnew_X7_isOne
set_option maxRecDepth 20000 in
theorem ggX7_aheadAnew_X7_fails : GoodIn wsX7_aheadAnew wsX7_fails := goodIn_r _ [13, 14, 61, 62, 63, 64, 65, 66, 67, 68, 69, 70, 71, 72, 73, 74, 75, 76, 77, 78, 79, 80] rfl (by decide +kernel)
set_option maxRecDepth 20000 in
theorem gX7_aheadAnew_X7_fails : GoodIn wsX7_aheadAnew (wsV RX7 83 RX7 yX7_fails wsX7_fails) := goodIn_app (goodIn_of _ (by decide +kernel)) ggX7_aheadAnew_X7_fails
set_option maxRecDepth 20000 in
theorem ggX7_aheadAnew_X7_far : GoodIn wsX7_aheadAnew wsX7_far := goodIn_r _ [18, 19, 20, 21, 22, 23, 24, 25, 26, 3, 27, 28, 29, 30, 31, 32, 33, 34, 35, 36, 37, 38, 39, 40, 41, 42, 43, 44, 45, 46, 47, 48, 49, 50, 51, 52, 53, 54, 55, 56, 57, 58, 59, 60, 61, 62, 63, 64, 65, 66, 67, 68, 69, 70, 71, 72, 73, 74, 75, 76, 77, 78, 79, 80] rfl (by decide +kernel)
set_option maxRecDepth 20000 in
theorem gX7_aheadAnew_X7_far : GoodIn wsX7_aheadAnew (wsV RX7 138 RX7 yX7_far wsX7_far) := goodIn_app (goodIn_of _ (by decide +kernel)) ggX7_aheadAnew_X7_far
theorem dX7_aheadAnew_0 : decode cX7_aheadAnew 0 = .ok (.iload_n 2, 1) := by decide +kernel
theorem dX7_aheadAnew_1 : decode cX7_aheadAnew 1 = .ok (.iconst 0, 1) := by decide +kernel
theorem dX7_aheadAnew_2 : decode cX7_aheadAnew 2 = .ok (.sipush 200, 3) := by decide +kernel
theorem dX7_aheadAnew_5 : decode cX7_aheadAnew 5 = .ok (.invokestatic 67, 3) := by decide +kernel
theorem dX7_aheadAnew_8 : decode cX7_aheadAnew 8 = .ok (.ifCond .eq 16, 3) := by decide +kernel
theorem dX7_aheadAnew_11 : decode cX7_aheadAnew 11 = .ok (.iload_n 3, 1) := by decide +kernel
theorem dX7_aheadAnew_12 : decode cX7_aheadAnew 12 = .ok (.iconst 0, 1) := by decide +kernel
theorem dX7_aheadAnew_13 : decode cX7_aheadAnew 13 = .ok (.iconst 4, 1) := by decide +kernel
theorem dX7_aheadAnew_14 : decode cX7_aheadAnew 14 = .ok (.invokestatic 67, 3) := by decide +kernel
theorem dX7_aheadAnew_17 : decode cX7_aheadAnew 17 = .ok (.ifCond .eq 7, 3) := by decide +kernel
theorem dX7_aheadAnew_20 : decode cX7_aheadAnew 20 = .ok (.iconst 1, 1) := by decide +kernel
theorem dX7_aheadAnew_21 : decode cX7_aheadAnew 21 = .ok (.goto 4, 3) := by decide +kernel
theorem dX7_aheadAnew_24 : decode cX7_aheadAnew 24 = .ok (.iconst 0, 1) := by decide +kernel
theorem dX7_aheadAnew_25 : decode cX7_aheadAnew 25 = .ok (.istore 4, 2) := by decide +kernel
theorem dX7_aheadAnew_27 : decode cX7_aheadAnew 27 = .ok (.aload_n 0, 1) := by decide +kernel
theorem dX7_aheadAnew_28 : decode cX7_aheadAnew 28 = .ok (.aload_n 0, 1) := by decide +kernel
theorem dX7_aheadAnew_29 : decode cX7_aheadAnew 29 = .ok (.iload_n 1, 1) := by decide +kernel
theorem dX7_aheadAnew_30 : decode cX7_aheadAnew 30 = .ok (.invokevirtual 93, 3) := by decide +kernel
theorem dX7_aheadAnew_33 : decode cX7_aheadAnew 33 = .ok (.ifCond .ne 7, 3) := by decide +kernel
theorem dX7_aheadAnew_36 : decode cX7_aheadAnew 36 = .ok (.iconst 1, 1) := by decide +kernel
theorem dX7_aheadAnew_37 : decode cX7_aheadAnew 37 = .ok (.goto 13, 3) := by decide +kernel
theorem dX7_aheadAnew_40 : decode cX7_aheadAnew 40 = .ok (.iload 4, 2) := by decide +kernel
theorem dX7_aheadAnew_42 : decode cX7_aheadAnew 42 = .ok (.ifCond .eq 7, 3) := by decide +kernel
theorem dX7_aheadAnew_45 : decode cX7_aheadAnew 45 = .ok (.iconst 0, 1) := by decide +kernel
theorem dX7_aheadAnew_46 : decode cX7_aheadAnew 46 = .ok (.goto 4, 3) := by decide +kernel
theorem dX7_aheadAnew_49 : decode cX7_aheadAnew 49 = .ok (.iconst 2, 1) := by decide +kernel
theorem dX7_aheadAnew_50 : decode cX7_aheadAnew 50 = .ok (.invokevirtual 83, 3) := by decide +kernel
theorem dX7_aheadAnew_53 : decode cX7_aheadAnew 53 = .ok (.ifCond .eq 7, 3) := by decide +kernel
theorem dX7_aheadAnew_56 : decode cX7_aheadAnew 56 = .ok (.iconst 0, 1) := by decide +kernel
theorem dX7_aheadAnew_57 : decode cX7_aheadAnew 57 = .ok (.goto 10, 3) := by decide +kernel
theorem dX7_aheadAnew_60 : decode cX7_aheadAnew 60 = .ok (.aload_n 0, 1) := by decide +kernel
theorem dX7_aheadAnew_61 : decode cX7_aheadAnew 61 = .ok (.iload_n 1, 1) := by decide +kernel
theorem dX7_aheadAnew_62 : decode cX7_aheadAnew 62 = .ok (.iload_n 2, 1) := by decide +kernel
theorem dX7_aheadAnew_63 : decode cX7_aheadAnew 63 = .ok (.iload_n 3, 1) := by decide +kernel
theorem dX7_aheadAnew_64 : decode cX7_aheadAnew 64 = .ok (.invokevirtual 138, 3) := by decide +kernel
theorem dX7_aheadAnew_67 : decode cX7_aheadAnew 67 = .ok (.ireturn, 1) := by decide +kernel
