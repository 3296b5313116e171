set_option maxRecDepth 20000 in
theorem ggX7_second_X7_goes : GoodIn wsX7_second wsX7_goes := goodIn_r _ [14, 4, 2, 3, 15, 5, 6, 7, 16, 17, 18, 19, 13, 20, 21, 22, 23, 24, 9, 25, 26, 27, 28, 29, 8, 30, 31, 32, 39, 40, 41, 42, 43, 44, 45, 46, 47, 48, 49, 50, 51, 52, 53, 54, 55, 56, 57, 58] rfl (by decide +kernel)
set_option maxRecDepth 20000 in
theorem gX7_second_X7_goes : GoodIn wsX7_second (wsV RX7 111 RX7 yX7_goes wsX7_goes) := goodIn_app (goodIn_of _ (by decide +kernel)) ggX7_second_X7_goes
set_option maxRecDepth 20000 in
theorem ggX7_second_X7_inverts : GoodIn wsX7_second wsX7_inverts := goodIn_r _ [35, 22, 23, 13, 24, 9, 30, 31, 32] rfl (by decide +kernel)
set_option maxRecDepth 20000 in
theorem gX7_second_X7_inverts : GoodIn wsX7_second (va_wsS RX7 117 yX7_inverts wsX7_inverts) := goodIn_app (goodIn_of _ (by decide +kernel)) ggX7_second_X7_inverts
set_option maxRecDepth 20000 in
theorem ggX7_second_X7_times : GoodIn wsX7_second wsX7_times := goodIn_r _ [38, 22, 23, 13, 24, 9] rfl (by decide +kernel)
set_option maxRecDepth 20000 in
theorem gX7_second_X7_times : GoodIn wsX7_second (va_wsS RX7 121 yX7_times wsX7_times) := goodIn_app (goodIn_of _ (by decide +kernel)) ggX7_second_X7_times
set_option maxRecDepth 20000 in
theorem ggX7_second_X7_predicts : GoodIn wsX7_second wsX7_predicts := goodIn_r _ [20, 21, 4, 22, 23, 13, 24, 9, 39, 40, 41, 42, 43, 44, 45, 46, 47, 48, 49, 50, 51, 52, 53, 54, 55, 56, 57, 58] rfl (by decide +kernel)
set_option maxRecDepth 20000 in
theorem gX7_second_X7_predicts : GoodIn wsX7_second (wsV RX7 99 RX7 yX7_predicts wsX7_predicts) := goodIn_app (goodIn_of _ (by decide +kernel)) ggX7_second_X7_predicts
set_option maxRecDepth 20000 in
theorem ggX7_second_X7_inverse : GoodIn wsX7_second wsX7_inverse := goodIn_r _ [32, 9, 22, 23, 13, 24] rfl (by decide +kernel)
set_option maxRecDepth 20000 in
theorem gX7_second_X7_inverse : GoodIn wsX7_second (va_wsS RX7 96 yX7_inverse wsX7_inverse) := goodIn_app (goodIn_of _ (by decide +kernel)) ggX7_second_X7_inverse
set_option maxRecDepth 20000 in
theorem ggX7_second_X7_by : GoodIn wsX7_second wsX7_by := goodIn_r _ [24, 9] rfl (by decide +kernel)
set_option maxRecDepth 20000 in
theorem gX7_second_X7_by : GoodIn wsX7_second (va_wsS RX7 79 yX7_by wsX7_by) := goodIn_app (goodIn_of _ (by decide +kernel)) ggX7_second_X7_by
theorem dX7_second_0 : decode cX7_second 0 = .ok (.aload_n 0, 1) := by decide +kernel
theorem dX7_second_1 : decode cX7_second 1 = .ok (.iload_n 1, 1) := by decide +kernel
theorem dX7_second_2 : decode cX7_second 2 = .ok (.invokevirtual 111, 3) := by decide +kernel
theorem dX7_second_5 : decode cX7_second 5 = .ok (.istore_n 2, 1) := by decide +kernel
theorem dX7_second_6 : decode cX7_second 6 = .ok (.iconst 0, 1) := by decide +kernel
theorem dX7_second_7 : decode cX7_second 7 = .ok (.istore_n 3, 1) := by decide +kernel
theorem dX7_second_8 : decode cX7_second 8 = .ok (.iload_n 3, 1) := by decide +kernel
theorem dX7_second_9 : decode cX7_second 9 = .ok (.iconst 5, 1) := by decide +kernel
theorem dX7_second_10 : decode cX7_second 10 = .ok (.if_icmp .ge 26, 3) := by decide +kernel
theorem dX7_second_13 : decode cX7_second 13 = .ok (.aload_n 0, 1) := by decide +kernel
theorem dX7_second_14 : decode cX7_second 14 = .ok (.getfield 51, 3) := by decide +kernel
theorem dX7_second_17 : decode cX7_second 17 = .ok (.iload_n 3, 1) := by decide +kernel
theorem dX7_second_18 : decode cX7_second 18 = .ok (.aload_n 0, 1) := by decide +kernel
theorem dX7_second_19 : decode cX7_second 19 = .ok (.getfield 16, 3) := by decide +kernel
theorem dX7_second_22 : decode cX7_second 22 = .ok (.iconst 5, 1) := by decide +kernel
theorem dX7_second_23 : decode cX7_second 23 = .ok (.iload_n 1, 1) := by decide +kernel
theorem dX7_second_24 : decode cX7_second 24 = .ok (.imul, 1) := by decide +kernel
theorem dX7_second_25 : decode cX7_second 25 = .ok (.iload_n 3, 1) := by decide +kernel
theorem dX7_second_26 : decode cX7_second 26 = .ok (.iadd, 1) := by decide +kernel
theorem dX7_second_27 : decode cX7_second 27 = .ok (.iaload, 1) := by decide +kernel
theorem dX7_second_28 : decode cX7_second 28 = .ok (.i2l, 1) := by decide +kernel
theorem dX7_second_29 : decode cX7_second 29 = .ok (.lastore, 1) := by decide +kernel
theorem dX7_second_30 : decode cX7_second 30 = .ok (.iinc 3 1, 3) := by decide +kernel
theorem dX7_second_33 : decode cX7_second 33 = .ok (.goto (-25), 3) := by decide +kernel
theorem dX7_second_36 : decode cX7_second 36 = .ok (.iload_n 2, 1) := by decide +kernel
theorem dX7_second_37 : decode cX7_second 37 = .ok (.ifCond .eq 17, 3) := by decide +kernel
theorem dX7_second_40 : decode cX7_second 40 = .ok (.aload_n 0, 1) := by decide +kernel
theorem dX7_second_41 : decode cX7_second 41 = .ok (.getfield 51, 3) := by decide +kernel
theorem dX7_second_44 : decode cX7_second 44 = .ok (.invokestatic 117, 3) := by decide +kernel
theorem dX7_second_47 : decode cX7_second 47 = .ok (.ifCond .eq 7, 3) := by decide +kernel
theorem dX7_second_50 : decode cX7_second 50 = .ok (.iconst 1, 1) := by decide +kernel
theorem dX7_second_51 : decode cX7_second 51 = .ok (.goto 4, 3) := by decide +kernel
theorem dX7_second_54 : decode cX7_second 54 = .ok (.iconst 0, 1) := by decide +kernel
theorem dX7_second_55 : decode cX7_second 55 = .ok (.istore_n 2, 1) := by decide +kernel
theorem dX7_second_56 : decode cX7_second 56 = .ok (.aload_n 0, 1) := by decide +kernel
theorem dX7_second_57 : decode cX7_second 57 = .ok (.getfield 51, 3) := by decide +kernel
theorem dX7_second_60 : decode cX7_second 60 = .ok (.invokestatic 121, 3) := by decide +kernel
theorem dX7_second_63 : decode cX7_second 63 = .ok (.iconst 0, 1) := by decide +kernel
theorem dX7_second_64 : decode cX7_second 64 = .ok (.istore_n 3, 1) := by decide +kernel
theorem dX7_second_65 : decode cX7_second 65 = .ok (.iload_n 3, 1) := by decide +kernel
theorem dX7_second_66 : decode cX7_second 66 = .ok (.aload_n 0, 1) := by decide +kernel
theorem dX7_second_67 : decode cX7_second 67 = .ok (.getfield 19, 3) := by decide +kernel
theorem dX7_second_70 : decode cX7_second 70 = .ok (.iload_n 1, 1) := by decide +kernel
theorem dX7_second_71 : decode cX7_second 71 = .ok (.iaload, 1) := by decide +kernel
theorem dX7_second_72 : decode cX7_second 72 = .ok (.if_icmp .gt 410, 3) := by decide +kernel
theorem dX7_second_75 : decode cX7_second 75 = .ok (.iload_n 2, 1) := by decide +kernel
theorem dX7_second_76 : decode cX7_second 76 = .ok (.ifCond .eq 406, 3) := by decide +kernel
theorem dX7_second_79 : decode cX7_second 79 = .ok (.iload_n 3, 1) := by decide +kernel
theorem dX7_second_80 : decode cX7_second 80 = .ok (.ifCond .le 108, 3) := by decide +kernel
theorem dX7_second_83 : decode cX7_second 83 = .ok (.aload_n 0, 1) := by decide +kernel
theorem dX7_second_84 : decode cX7_second 84 = .ok (.getfield 51, 3) := by decide +kernel
theorem dX7_second_87 : decode cX7_second 87 = .ok (.invokestatic 117, 3) := by decide +kernel
theorem dX7_second_90 : decode cX7_second 90 = .ok (.istore_n 2, 1) := by decide +kernel
theorem dX7_second_91 : decode cX7_second 91 = .ok (.aload_n 0, 1) := by decide +kernel
theorem dX7_second_92 : decode cX7_second 92 = .ok (.getfield 51, 3) := by decide +kernel
theorem dX7_second_95 : decode cX7_second 95 = .ok (.invokestatic 121, 3) := by decide +kernel
theorem dX7_second_98 : decode cX7_second 98 = .ok (.iconst 0, 1) := by decide +kernel
theorem dX7_second_99 : decode cX7_second 99 = .ok (.istore 4, 2) := by decide +kernel
theorem dX7_second_101 : decode cX7_second 101 = .ok (.iload 4, 2) := by decide +kernel
theorem dX7_second_103 : decode cX7_second 103 = .ok (.iconst 5, 1) := by decide +kernel
theorem dX7_second_104 : decode cX7_second 104 = .ok (.if_icmp .ge 23, 3) := by decide +kernel
theorem dX7_second_107 : decode cX7_second 107 = .ok (.aload_n 0, 1) := by decide +kernel
theorem dX7_second_108 : decode cX7_second 108 = .ok (.getfield 48, 3) := by decide +kernel
theorem dX7_second_111 : decode cX7_second 111 = .ok (.iload 4, 2) := by decide +kernel
theorem dX7_second_113 : decode cX7_second 113 = .ok (.aload_n 0, 1) := by decide +kernel
theorem dX7_second_114 : decode cX7_second 114 = .ok (.getfield 51, 3) := by decide +kernel
theorem dX7_second_117 : decode cX7_second 117 = .ok (.iload 4, 2) := by decide +kernel
theorem dX7_second_119 : decode cX7_second 119 = .ok (.laload, 1) := by decide +kernel
theorem dX7_second_120 : decode cX7_second 120 = .ok (.lastore, 1) := by decide +kernel
theorem dX7_second_121 : decode cX7_second 121 = .ok (.iinc 4 1, 3) := by decide +kernel
theorem dX7_second_124 : decode cX7_second 124 = .ok (.goto (-23), 3) := by decide +kernel
theorem dX7_second_127 : decode cX7_second 127 = .ok (.aload_n 0, 1) := by decide +kernel
theorem dX7_second_128 : decode cX7_second 128 = .ok (.iload_n 1, 1) := by decide +kernel
theorem dX7_second_129 : decode cX7_second 129 = .ok (.invokevirtual 99, 3) := by decide +kernel
theorem dX7_second_132 : decode cX7_second 132 = .ok (.iconst 0, 1) := by decide +kernel
theorem dX7_second_133 : decode cX7_second 133 = .ok (.istore 4, 2) := by decide +kernel
theorem dX7_second_135 : decode cX7_second 135 = .ok (.iload 4, 2) := by decide +kernel
theorem dX7_second_137 : decode cX7_second 137 = .ok (.iconst 5, 1) := by decide +kernel
theorem dX7_second_138 : decode cX7_second 138 = .ok (.if_icmp .ge 23, 3) := by decide +kernel
theorem dX7_second_141 : decode cX7_second 141 = .ok (.aload_n 0, 1) := by decide +kernel
theorem dX7_second_142 : decode cX7_second 142 = .ok (.getfield 51, 3) := by decide +kernel
theorem dX7_second_145 : decode cX7_second 145 = .ok (.iload 4, 2) := by decide +kernel
theorem dX7_second_147 : decode cX7_second 147 = .ok (.aload_n 0, 1) := by decide +kernel
theorem dX7_second_148 : decode cX7_second 148 = .ok (.getfield 48, 3) := by decide +kernel
theorem dX7_second_151 : decode cX7_second 151 = .ok (.iload 4, 2) := by decide +kernel
theorem dX7_second_153 : decode cX7_second 153 = .ok (.laload, 1) := by decide +kernel
theorem dX7_second_154 : decode cX7_second 154 = .ok (.lastore, 1) := by decide +kernel
theorem dX7_second_155 : decode cX7_second 155 = .ok (.iinc 4 1, 3) := by decide +kernel
theorem dX7_second_158 : decode cX7_second 158 = .ok (.goto (-23), 3) := by decide +kernel
theorem dX7_second_161 : decode cX7_second 161 = .ok (.aload_n 0, 1) := by decide +kernel
theorem dX7_second_162 : decode cX7_second 162 = .ok (.getfield 51, 3) := by decide +kernel
theorem dX7_second_165 : decode cX7_second 165 = .ok (.invokestatic 117, 3) := by decide +kernel
theorem dX7_second_168 : decode cX7_second 168 = .ok (.ifCond .eq 11, 3) := by decide +kernel
theorem dX7_second_171 : decode cX7_second 171 = .ok (.iload_n 2, 1) := by decide +kernel
theorem dX7_second_172 : decode cX7_second 172 = .ok (.ifCond .eq 7, 3) := by decide +kernel
theorem dX7_second_175 : decode cX7_second 175 = .ok (.iconst 1, 1) := by decide +kernel
theorem dX7_second_176 : decode cX7_second 176 = .ok (.goto 4, 3) := by decide +kernel
theorem dX7_second_179 : decode cX7_second 179 = .ok (.iconst 0, 1) := by decide +kernel
theorem dX7_second_180 : decode cX7_second 180 = .ok (.istore_n 2, 1) := by decide +kernel
theorem dX7_second_181 : decode cX7_second 181 = .ok (.aload_n 0, 1) := by decide +kernel
theorem dX7_second_182 : decode cX7_second 182 = .ok (.getfield 51, 3) := by decide +kernel
theorem dX7_second_185 : decode cX7_second 185 = .ok (.invokestatic 121, 3) := by decide +kernel
theorem dX7_second_188 : decode cX7_second 188 = .ok (.iconst 0, 1) := by decide +kernel
theorem dX7_second_189 : decode cX7_second 189 = .ok (.istore 4, 2) := by decide +kernel
theorem dX7_second_191 : decode cX7_second 191 = .ok (.iload 4, 2) := by decide +kernel
theorem dX7_second_193 : decode cX7_second 193 = .ok (.aload_n 0, 1) := by decide +kernel
theorem dX7_second_194 : decode cX7_second 194 = .ok (.getfield 25, 3) := by decide +kernel
theorem dX7_second_197 : decode cX7_second 197 = .ok (.iload_n 1, 1) := by decide +kernel
theorem dX7_second_198 : decode cX7_second 198 = .ok (.iaload, 1) := by decide +kernel
theorem dX7_second_199 : decode cX7_second 199 = .ok (.if_icmp .ge 277, 3) := by decide +kernel
theorem dX7_second_202 : decode cX7_second 202 = .ok (.iload_n 2, 1) := by decide +kernel
theorem dX7_second_203 : decode cX7_second 203 = .ok (.ifCond .eq 273, 3) := by decide +kernel
theorem dX7_second_206 : decode cX7_second 206 = .ok (.bipush 6, 2) := by decide +kernel
theorem dX7_second_208 : decode cX7_second 208 = .ok (.bipush 30, 2) := by decide +kernel
theorem dX7_second_210 : decode cX7_second 210 = .ok (.iload_n 1, 1) := by decide +kernel
theorem dX7_second_211 : decode cX7_second 211 = .ok (.imul, 1) := by decide +kernel
theorem dX7_second_212 : decode cX7_second 212 = .ok (.iload 4, 2) := by decide +kernel
theorem dX7_second_214 : decode cX7_second 214 = .ok (.iadd, 1) := by decide +kernel
theorem dX7_second_215 : decode cX7_second 215 = .ok (.imul, 1) := by decide +kernel
theorem dX7_second_216 : decode cX7_second 216 = .ok (.istore 5, 2) := by decide +kernel
theorem dX7_second_218 : decode cX7_second 218 = .ok (.aload_n 0, 1) := by decide +kernel
theorem dX7_second_219 : decode cX7_second 219 = .ok (.getfield 28, 3) := by decide +kernel
theorem dX7_second_222 : decode cX7_second 222 = .ok (.iload 5, 2) := by decide +kernel
theorem dX7_second_224 : decode cX7_second 224 = .ok (.iaload, 1) := by decide +kernel
theorem dX7_second_225 : decode cX7_second 225 = .ok (.iload_n 3, 1) := by decide +kernel
theorem dX7_second_226 : decode cX7_second 226 = .ok (.if_icmp .ne 244, 3) := by decide +kernel
theorem dX7_second_229 : decode cX7_second 229 = .ok (.aload_n 0, 1) := by decide +kernel
theorem dX7_second_230 : decode cX7_second 230 = .ok (.getfield 31, 3) := by decide +kernel
theorem dX7_second_233 : decode cX7_second 233 = .ok (.bipush 30, 2) := by decide +kernel
theorem dX7_second_235 : decode cX7_second 235 = .ok (.iload_n 1, 1) := by decide +kernel
theorem dX7_second_236 : decode cX7_second 236 = .ok (.imul, 1) := by decide +kernel
theorem dX7_second_237 : decode cX7_second 237 = .ok (.iload 4, 2) := by decide +kernel
theorem dX7_second_239 : decode cX7_second 239 = .ok (.iadd, 1) := by decide +kernel
theorem dX7_second_240 : decode cX7_second 240 = .ok (.baload, 1) := by decide +kernel
theorem dX7_second_241 : decode cX7_second 241 = .ok (.ifCond .ne 229, 3) := by decide +kernel
theorem dX7_second_244 : decode cX7_second 244 = .ok (.aload_n 0, 1) := by decide +kernel
theorem dX7_second_245 : decode cX7_second 245 = .ok (.getfield 45, 3) := by decide +kernel
theorem dX7_second_248 : decode cX7_second 248 = .ok (.iload 4, 2) := by decide +kernel
theorem dX7_second_250 : decode cX7_second 250 = .ok (.baload, 1) := by decide +kernel
theorem dX7_second_251 : decode cX7_second 251 = .ok (.ifCond .ne 219, 3) := by decide +kernel
theorem dX7_second_254 : decode cX7_second 254 = .ok (.aload_n 0, 1) := by decide +kernel
theorem dX7_second_255 : decode cX7_second 255 = .ok (.getfield 28, 3) := by decide +kernel
theorem dX7_second_258 : decode cX7_second 258 = .ok (.iload 5, 2) := by decide +kernel
theorem dX7_second_260 : decode cX7_second 260 = .ok (.iconst 4, 1) := by decide +kernel
theorem dX7_second_261 : decode cX7_second 261 = .ok (.iadd, 1) := by decide +kernel
theorem dX7_second_262 : decode cX7_second 262 = .ok (.iaload, 1) := by decide +kernel
theorem dX7_second_263 : decode cX7_second 263 = .ok (.i2l, 1) := by decide +kernel
theorem dX7_second_264 : decode cX7_second 264 = .ok (.invokestatic 96, 3) := by decide +kernel
theorem dX7_second_267 : decode cX7_second 267 = .ok (.lstore 6, 2) := by decide +kernel
theorem dX7_second_269 : decode cX7_second 269 = .ok (.aload_n 0, 1) := by decide +kernel
theorem dX7_second_270 : decode cX7_second 270 = .ok (.getfield 28, 3) := by decide +kernel
theorem dX7_second_273 : decode cX7_second 273 = .ok (.iload 5, 2) := by decide +kernel
theorem dX7_second_275 : decode cX7_second 275 = .ok (.iconst 1, 1) := by decide +kernel
theorem dX7_second_276 : decode cX7_second 276 = .ok (.iadd, 1) := by decide +kernel
theorem dX7_second_277 : decode cX7_second 277 = .ok (.iaload, 1) := by decide +kernel
theorem dX7_second_278 : decode cX7_second 278 = .ok (.i2l, 1) := by decide +kernel
theorem dX7_second_279 : decode cX7_second 279 = .ok (.lload 6, 2) := by decide +kernel
theorem dX7_second_281 : decode cX7_second 281 = .ok (.lmul, 1) := by decide +kernel
theorem dX7_second_282 : decode cX7_second 282 = .ok (.ldc2_w 77, 3) := by decide +kernel
theorem dX7_second_285 : decode cX7_second 285 = .ok (.lrem, 1) := by decide +kernel
theorem dX7_second_286 : decode cX7_second 286 = .ok (.lstore 8, 2) := by decide +kernel
theorem dX7_second_288 : decode cX7_second 288 = .ok (.aload_n 0, 1) := by decide +kernel
theorem dX7_second_289 : decode cX7_second 289 = .ok (.getfield 28, 3) := by decide +kernel
theorem dX7_second_292 : decode cX7_second 292 = .ok (.iload 5, 2) := by decide +kernel
theorem dX7_second_294 : decode cX7_second 294 = .ok (.iconst 2, 1) := by decide +kernel
theorem dX7_second_295 : decode cX7_second 295 = .ok (.iadd, 1) := by decide +kernel
theorem dX7_second_296 : decode cX7_second 296 = .ok (.iaload, 1) := by decide +kernel
theorem dX7_second_297 : decode cX7_second 297 = .ok (.i2l, 1) := by decide +kernel
theorem dX7_second_298 : decode cX7_second 298 = .ok (.lload 6, 2) := by decide +kernel
theorem dX7_second_300 : decode cX7_second 300 = .ok (.lmul, 1) := by decide +kernel
theorem dX7_second_301 : decode cX7_second 301 = .ok (.ldc2_w 77, 3) := by decide +kernel
theorem dX7_second_304 : decode cX7_second 304 = .ok (.lrem, 1) := by decide +kernel
theorem dX7_second_305 : decode cX7_second 305 = .ok (.lstore 10, 2) := by decide +kernel
theorem dX7_second_307 : decode cX7_second 307 = .ok (.aload_n 0, 1) := by decide +kernel
theorem dX7_second_308 : decode cX7_second 308 = .ok (.getfield 51, 3) := by decide +kernel
theorem dX7_second_311 : decode cX7_second 311 = .ok (.iconst 0, 1) := by decide +kernel
theorem dX7_second_312 : decode cX7_second 312 = .ok (.aload_n 0, 1) := by decide +kernel
theorem dX7_second_313 : decode cX7_second 313 = .ok (.getfield 51, 3) := by decide +kernel
theorem dX7_second_316 : decode cX7_second 316 = .ok (.iconst 0, 1) := by decide +kernel
theorem dX7_second_317 : decode cX7_second 317 = .ok (.laload, 1) := by decide +kernel
theorem dX7_second_318 : decode cX7_second 318 = .ok (.lload 8, 2) := by decide +kernel
theorem dX7_second_320 : decode cX7_second 320 = .ok (.aload_n 0, 1) := by decide +kernel
theorem dX7_second_321 : decode cX7_second 321 = .ok (.getfield 28, 3) := by decide +kernel
theorem dX7_second_324 : decode cX7_second 324 = .ok (.iload 5, 2) := by decide +kernel
theorem dX7_second_326 : decode cX7_second 326 = .ok (.iconst 3, 1) := by decide +kernel
theorem dX7_second_327 : decode cX7_second 327 = .ok (.iadd, 1) := by decide +kernel
theorem dX7_second_328 : decode cX7_second 328 = .ok (.iaload, 1) := by decide +kernel
theorem dX7_second_329 : decode cX7_second 329 = .ok (.i2l, 1) := by decide +kernel
theorem dX7_second_330 : decode cX7_second 330 = .ok (.lmul, 1) := by decide +kernel
theorem dX7_second_331 : decode cX7_second 331 = .ok (.ladd, 1) := by decide +kernel
theorem dX7_second_332 : decode cX7_second 332 = .ok (.invokestatic 79, 3) := by decide +kernel
theorem dX7_second_335 : decode cX7_second 335 = .ok (.lastore, 1) := by decide +kernel
theorem dX7_second_336 : decode cX7_second 336 = .ok (.aload_n 0, 1) := by decide +kernel
theorem dX7_second_337 : decode cX7_second 337 = .ok (.getfield 51, 3) := by decide +kernel
theorem dX7_second_340 : decode cX7_second 340 = .ok (.iconst 1, 1) := by decide +kernel
theorem dX7_second_341 : decode cX7_second 341 = .ok (.aload_n 0, 1) := by decide +kernel
theorem dX7_second_342 : decode cX7_second 342 = .ok (.getfield 51, 3) := by decide +kernel
theorem dX7_second_345 : decode cX7_second 345 = .ok (.iconst 1, 1) := by decide +kernel
theorem dX7_second_346 : decode cX7_second 346 = .ok (.laload, 1) := by decide +kernel
theorem dX7_second_347 : decode cX7_second 347 = .ok (.lload 10, 2) := by decide +kernel
theorem dX7_second_349 : decode cX7_second 349 = .ok (.aload_n 0, 1) := by decide +kernel
theorem dX7_second_350 : decode cX7_second 350 = .ok (.getfield 28, 3) := by decide +kernel
theorem dX7_second_353 : decode cX7_second 353 = .ok (.iload 5, 2) := by decide +kernel
theorem dX7_second_355 : decode cX7_second 355 = .ok (.iconst 3, 1) := by decide +kernel
theorem dX7_second_356 : decode cX7_second 356 = .ok (.iadd, 1) := by decide +kernel
theorem dX7_second_357 : decode cX7_second 357 = .ok (.iaload, 1) := by decide +kernel
theorem dX7_second_358 : decode cX7_second 358 = .ok (.i2l, 1) := by decide +kernel
theorem dX7_second_359 : decode cX7_second 359 = .ok (.lmul, 1) := by decide +kernel
theorem dX7_second_360 : decode cX7_second 360 = .ok (.ladd, 1) := by decide +kernel
theorem dX7_second_361 : decode cX7_second 361 = .ok (.invokestatic 79, 3) := by decide +kernel
theorem dX7_second_364 : decode cX7_second 364 = .ok (.lastore, 1) := by decide +kernel
theorem dX7_second_365 : decode cX7_second 365 = .ok (.aload_n 0, 1) := by decide +kernel
theorem dX7_second_366 : decode cX7_second 366 = .ok (.getfield 51, 3) := by decide +kernel
theorem dX7_second_369 : decode cX7_second 369 = .ok (.iconst 2, 1) := by decide +kernel
theorem dX7_second_370 : decode cX7_second 370 = .ok (.aload_n 0, 1) := by decide +kernel
theorem dX7_second_371 : decode cX7_second 371 = .ok (.getfield 51, 3) := by decide +kernel
theorem dX7_second_374 : decode cX7_second 374 = .ok (.iconst 2, 1) := by decide +kernel
theorem dX7_second_375 : decode cX7_second 375 = .ok (.laload, 1) := by decide +kernel
theorem dX7_second_376 : decode cX7_second 376 = .ok (.lload 8, 2) := by decide +kernel
theorem dX7_second_378 : decode cX7_second 378 = .ok (.aload_n 0, 1) := by decide +kernel
theorem dX7_second_379 : decode cX7_second 379 = .ok (.getfield 28, 3) := by decide +kernel
theorem dX7_second_382 : decode cX7_second 382 = .ok (.iload 5, 2) := by decide +kernel
theorem dX7_second_384 : decode cX7_second 384 = .ok (.iconst 1, 1) := by decide +kernel
theorem dX7_second_385 : decode cX7_second 385 = .ok (.iadd, 1) := by decide +kernel
theorem dX7_second_386 : decode cX7_second 386 = .ok (.iaload, 1) := by decide +kernel
theorem dX7_second_387 : decode cX7_second 387 = .ok (.i2l, 1) := by decide +kernel
theorem dX7_second_388 : decode cX7_second 388 = .ok (.lmul, 1) := by decide +kernel
theorem dX7_second_389 : decode cX7_second 389 = .ok (.ladd, 1) := by decide +kernel
theorem dX7_second_390 : decode cX7_second 390 = .ok (.invokestatic 79, 3) := by decide +kernel
theorem dX7_second_393 : decode cX7_second 393 = .ok (.lastore, 1) := by decide +kernel
theorem dX7_second_394 : decode cX7_second 394 = .ok (.aload_n 0, 1) := by decide +kernel
theorem dX7_second_395 : decode cX7_second 395 = .ok (.getfield 51, 3) := by decide +kernel
theorem dX7_second_398 : decode cX7_second 398 = .ok (.iconst 3, 1) := by decide +kernel
theorem dX7_second_399 : decode cX7_second 399 = .ok (.aload_n 0, 1) := by decide +kernel
theorem dX7_second_400 : decode cX7_second 400 = .ok (.getfield 51, 3) := by decide +kernel
theorem dX7_second_403 : decode cX7_second 403 = .ok (.iconst 3, 1) := by decide +kernel
theorem dX7_second_404 : decode cX7_second 404 = .ok (.laload, 1) := by decide +kernel
theorem dX7_second_405 : decode cX7_second 405 = .ok (.lload 8, 2) := by decide +kernel
theorem dX7_second_407 : decode cX7_second 407 = .ok (.aload_n 0, 1) := by decide +kernel
theorem dX7_second_408 : decode cX7_second 408 = .ok (.getfield 28, 3) := by decide +kernel
theorem dX7_second_411 : decode cX7_second 411 = .ok (.iload 5, 2) := by decide +kernel
theorem dX7_second_413 : decode cX7_second 413 = .ok (.iconst 2, 1) := by decide +kernel
theorem dX7_second_414 : decode cX7_second 414 = .ok (.iadd, 1) := by decide +kernel
theorem dX7_second_415 : decode cX7_second 415 = .ok (.iaload, 1) := by decide +kernel
theorem dX7_second_416 : decode cX7_second 416 = .ok (.i2l, 1) := by decide +kernel
theorem dX7_second_417 : decode cX7_second 417 = .ok (.lmul, 1) := by decide +kernel
theorem dX7_second_418 : decode cX7_second 418 = .ok (.ladd, 1) := by decide +kernel
theorem dX7_second_419 : decode cX7_second 419 = .ok (.invokestatic 79, 3) := by decide +kernel
theorem dX7_second_422 : decode cX7_second 422 = .ok (.lastore, 1) := by decide +kernel
theorem dX7_second_423 : decode cX7_second 423 = .ok (.aload_n 0, 1) := by decide +kernel
theorem dX7_second_424 : decode cX7_second 424 = .ok (.getfield 51, 3) := by decide +kernel
theorem dX7_second_427 : decode cX7_second 427 = .ok (.iconst 4, 1) := by decide +kernel
theorem dX7_second_428 : decode cX7_second 428 = .ok (.aload_n 0, 1) := by decide +kernel
theorem dX7_second_429 : decode cX7_second 429 = .ok (.getfield 51, 3) := by decide +kernel
theorem dX7_second_432 : decode cX7_second 432 = .ok (.iconst 4, 1) := by decide +kernel
theorem dX7_second_433 : decode cX7_second 433 = .ok (.laload, 1) := by decide +kernel
theorem dX7_second_434 : decode cX7_second 434 = .ok (.lload 10, 2) := by decide +kernel
theorem dX7_second_436 : decode cX7_second 436 = .ok (.aload_n 0, 1) := by decide +kernel
theorem dX7_second_437 : decode cX7_second 437 = .ok (.getfield 28, 3) := by decide +kernel
theorem dX7_second_440 : decode cX7_second 440 = .ok (.iload 5, 2) := by decide +kernel
theorem dX7_second_442 : decode cX7_second 442 = .ok (.iconst 2, 1) := by decide +kernel
theorem dX7_second_443 : decode cX7_second 443 = .ok (.iadd, 1) := by decide +kernel
theorem dX7_second_444 : decode cX7_second 444 = .ok (.iaload, 1) := by decide +kernel
theorem dX7_second_445 : decode cX7_second 445 = .ok (.i2l, 1) := by decide +kernel
theorem dX7_second_446 : decode cX7_second 446 = .ok (.lmul, 1) := by decide +kernel
theorem dX7_second_447 : decode cX7_second 447 = .ok (.ladd, 1) := by decide +kernel
theorem dX7_second_448 : decode cX7_second 448 = .ok (.invokestatic 79, 3) := by decide +kernel
theorem dX7_second_451 : decode cX7_second 451 = .ok (.lastore, 1) := by decide +kernel
theorem dX7_second_452 : decode cX7_second 452 = .ok (.aload_n 0, 1) := by decide +kernel
theorem dX7_second_453 : decode cX7_second 453 = .ok (.getfield 28, 3) := by decide +kernel
theorem dX7_second_456 : decode cX7_second 456 = .ok (.iload 5, 2) := by decide +kernel
theorem dX7_second_458 : decode cX7_second 458 = .ok (.iconst 4, 1) := by decide +kernel
theorem dX7_second_459 : decode cX7_second 459 = .ok (.iadd, 1) := by decide +kernel
theorem dX7_second_460 : decode cX7_second 460 = .ok (.iaload, 1) := by decide +kernel
theorem dX7_second_461 : decode cX7_second 461 = .ok (.ifCond .eq 7, 3) := by decide +kernel
theorem dX7_second_464 : decode cX7_second 464 = .ok (.iconst 1, 1) := by decide +kernel
theorem dX7_second_465 : decode cX7_second 465 = .ok (.goto 4, 3) := by decide +kernel
theorem dX7_second_468 : decode cX7_second 468 = .ok (.iconst 0, 1) := by decide +kernel
theorem dX7_second_469 : decode cX7_second 469 = .ok (.istore_n 2, 1) := by decide +kernel
theorem dX7_second_470 : decode cX7_second 470 = .ok (.iinc 4 1, 3) := by decide +kernel
theorem dX7_second_473 : decode cX7_second 473 = .ok (.goto (-282), 3) := by decide +kernel
theorem dX7_second_476 : decode cX7_second 476 = .ok (.iinc 3 1, 3) := by decide +kernel
theorem dX7_second_479 : decode cX7_second 479 = .ok (.goto (-414), 3) := by decide +kernel
theorem dX7_second_482 : decode cX7_second 482 = .ok (.iload_n 2, 1) := by decide +kernel
theorem dX7_second_483 : decode cX7_second 483 = .ok (.ifCond .eq 17, 3) := by decide +kernel
theorem dX7_second_486 : decode cX7_second 486 = .ok (.aload_n 0, 1) := by decide +kernel
theorem dX7_second_487 : decode cX7_second 487 = .ok (.getfield 51, 3) := by decide +kernel
theorem dX7_second_490 : decode cX7_second 490 = .ok (.invokestatic 117, 3) := by decide +kernel
theorem dX7_second_493 : decode cX7_second 493 = .ok (.ifCond .eq 7, 3) := by decide +kernel
theorem dX7_second_496 : decode cX7_second 496 = .ok (.iconst 1, 1) := by decide +kernel
theorem dX7_second_497 : decode cX7_second 497 = .ok (.goto 4, 3) := by decide +kernel
theorem dX7_second_500 : decode cX7_second 500 = .ok (.iconst 0, 1) := by decide +kernel
theorem dX7_second_501 : decode cX7_second 501 = .ok (.istore_n 2, 1) := by decide +kernel
theorem dX7_second_502 : decode cX7_second 502 = .ok (.aload_n 0, 1) := by decide +kernel
theorem dX7_second_503 : decode cX7_second 503 = .ok (.getfield 51, 3) := by decide +kernel
theorem dX7_second_506 : decode cX7_second 506 = .ok (.invokestatic 121, 3) := by decide +kernel
theorem dX7_second_509 : decode cX7_second 509 = .ok (.iload_n 2, 1) := by decide +kernel
theorem dX7_second_510 : decode cX7_second 510 = .ok (.ireturn, 1) := by decide +kernel
set_option maxRecDepth 20000 in
theorem ggX7_anew_X7_isOne : GoodIn wsX7_anew wsX7_isOne := goodIn_r _ [6, 7, 8, 9, 5, 10, 56, 57, 58, 59, 60, 61, 62, 63, 64, 65, 66, 67, 68, 69, 70, 71, 72, 73, 74, 75] rfl (by decide +kernel)
set_option maxRecDepth 20000 in
theorem gX7_anew_X7_isOne : GoodIn wsX7_anew (wsV RX7 93 RX7 yX7_isOne wsX7_isOne) := goodIn_app (goodIn_of _ (by decide +kernel)) ggX7_anew_X7_isOne
set_option maxRecDepth 20000 in
theorem ggX7_anew_X7_isIn : GoodIn wsX7_anew wsX7_isIn := goodIn_r _ [10] rfl (by decide +kernel)
set_option maxRecDepth 20000 in
theorem gX7_anew_X7_isIn : GoodIn wsX7_anew (va_wsS RX7 67 yX7_isIn wsX7_isIn) := goodIn_app (goodIn_of _ (by decide +kernel)) ggX7_anew_X7_isIn
set_option maxRecDepth 20000 in
theorem ggX7_anew_X7_second : GoodIn wsX7_anew wsX7_second := goodIn_r _ [14, 1, 15, 16, 17, 18, 19, 20, 21, 22, 23, 24, 25, 5, 26, 27, 28, 29, 30, 31, 32, 33, 34, 35, 36, 37, 38, 39, 40, 41, 42, 43, 44, 45, 46, 47, 48, 49, 50, 56, 57, 58, 59, 60, 61, 62, 63, 64, 65, 66, 67, 68, 69, 70, 71, 72, 73, 74, 75] rfl (by decide +kernel)
set_option maxRecDepth 20000 in
theorem gX7_anew_X7_second : GoodIn wsX7_anew (wsV RX7 125 RX7 yX7_second wsX7_second) := goodIn_app (goodIn_of _ (by decide +kernel)) ggX7_anew_X7_second
set_option maxRecDepth 20000 in
theorem ggX7_anew_X7_fails : GoodIn wsX7_anew wsX7_fails := goodIn_r _ [54, 55, 56, 57, 58, 59, 60, 61, 62, 63, 64, 65, 66, 67, 68, 69, 70, 71, 72, 73, 74, 75] rfl (by decide +kernel)
set_option maxRecDepth 20000 in
theorem gX7_anew_X7_fails : GoodIn wsX7_anew (wsV RX7 83 RX7 yX7_fails wsX7_fails) := goodIn_app (goodIn_of _ (by decide +kernel)) ggX7_anew_X7_fails
theorem dX7_anew_0 : decode cX7_anew 0 = .ok (.aload_n 0, 1) := by decide +kernel
theorem dX7_anew_1 : decode cX7_anew 1 = .ok (.iload_n 1, 1) := by decide +kernel
theorem dX7_anew_2 : decode cX7_anew 2 = .ok (.invokevirtual 93, 3) := by decide +kernel
theorem dX7_anew_5 : decode cX7_anew 5 = .ok (.ifCond .eq 16, 3) := by decide +kernel
theorem dX7_anew_8 : decode cX7_anew 8 = .ok (.iload_n 2, 1) := by decide +kernel
theorem dX7_anew_9 : decode cX7_anew 9 = .ok (.iconst 0, 1) := by decide +kernel
theorem dX7_anew_10 : decode cX7_anew 10 = .ok (.iconst 4, 1) := by decide +kernel
theorem dX7_anew_11 : decode cX7_anew 11 = .ok (.invokestatic 67, 3) := by decide +kernel
theorem dX7_anew_14 : decode cX7_anew 14 = .ok (.ifCond .eq 7, 3) := by decide +kernel
theorem dX7_anew_17 : decode cX7_anew 17 = .ok (.iconst 1, 1) := by decide +kernel
theorem dX7_anew_18 : decode cX7_anew 18 = .ok (.goto 4, 3) := by decide +kernel
theorem dX7_anew_21 : decode cX7_anew 21 = .ok (.iconst 0, 1) := by decide +kernel
theorem dX7_anew_22 : decode cX7_anew 22 = .ok (.istore_n 3, 1) := by decide +kernel
theorem dX7_anew_23 : decode cX7_anew 23 = .ok (.iload_n 3, 1) := by decide +kernel
theorem dX7_anew_24 : decode cX7_anew 24 = .ok (.ifCond .eq 15, 3) := by decide +kernel
theorem dX7_anew_27 : decode cX7_anew 27 = .ok (.aload_n 0, 1) := by decide +kernel
theorem dX7_anew_28 : decode cX7_anew 28 = .ok (.iload_n 1, 1) := by decide +kernel
theorem dX7_anew_29 : decode cX7_anew 29 = .ok (.invokevirtual 125, 3) := by decide +kernel
theorem dX7_anew_32 : decode cX7_anew 32 = .ok (.ifCond .eq 7, 3) := by decide +kernel
theorem dX7_anew_35 : decode cX7_anew 35 = .ok (.iconst 1, 1) := by decide +kernel
theorem dX7_anew_36 : decode cX7_anew 36 = .ok (.goto 4, 3) := by decide +kernel
theorem dX7_anew_39 : decode cX7_anew 39 = .ok (.iconst 0, 1) := by decide +kernel
theorem dX7_anew_40 : decode cX7_anew 40 = .ok (.istore 4, 2) := by decide +kernel
theorem dX7_anew_42 : decode cX7_anew 42 = .ok (.aload_n 0, 1) := by decide +kernel
theorem dX7_anew_43 : decode cX7_anew 43 = .ok (.aload_n 0, 1) := by decide +kernel
theorem dX7_anew_44 : decode cX7_anew 44 = .ok (.iload_n 1, 1) := by decide +kernel
theorem dX7_anew_45 : decode cX7_anew 45 = .ok (.invokevirtual 93, 3) := by decide +kernel
theorem dX7_anew_48 : decode cX7_anew 48 = .ok (.ifCond .ne 7, 3) := by decide +kernel
theorem dX7_anew_51 : decode cX7_anew 51 = .ok (.iconst 1, 1) := by decide +kernel
theorem dX7_anew_52 : decode cX7_anew 52 = .ok (.goto 21, 3) := by decide +kernel
theorem dX7_anew_55 : decode cX7_anew 55 = .ok (.iload_n 3, 1) := by decide +kernel
theorem dX7_anew_56 : decode cX7_anew 56 = .ok (.ifCond .ne 7, 3) := by decide +kernel
theorem dX7_anew_59 : decode cX7_anew 59 = .ok (.iconst 2, 1) := by decide +kernel
theorem dX7_anew_60 : decode cX7_anew 60 = .ok (.goto 13, 3) := by decide +kernel
theorem dX7_anew_63 : decode cX7_anew 63 = .ok (.iload 4, 2) := by decide +kernel
theorem dX7_anew_65 : decode cX7_anew 65 = .ok (.ifCond .eq 7, 3) := by decide +kernel
theorem dX7_anew_68 : decode cX7_anew 68 = .ok (.iconst 0, 1) := by decide +kernel
theorem dX7_anew_69 : decode cX7_anew 69 = .ok (.goto 4, 3) := by decide +kernel
theorem dX7_anew_72 : decode cX7_anew 72 = .ok (.iconst 3, 1) := by decide +kernel
theorem dX7_anew_73 : decode cX7_anew 73 = .ok (.invokevirtual 83, 3) := by decide +kernel
theorem dX7_anew_76 : decode cX7_anew 76 = .ok (.ifCond .eq 7, 3) := by decide +kernel
theorem dX7_anew_79 : decode cX7_anew 79 = .ok (.iconst 0, 1) := by decide +kernel
theorem dX7_anew_80 : decode cX7_anew 80 = .ok (.goto 10, 3) := by decide +kernel
theorem dX7_anew_83 : decode cX7_anew 83 = .ok (.aload_n 0, 1) := by decide +kernel
theorem dX7_anew_84 : decode cX7_anew 84 = .ok (.getfield 51, 3) := by decide +kernel
theorem dX7_anew_87 : decode cX7_anew 87 = .ok (.iload_n 2, 1) := by decide +kernel
theorem dX7_anew_88 : decode cX7_anew 88 = .ok (.laload, 1) := by decide +kernel
theorem dX7_anew_89 : decode cX7_anew 89 = .ok (.l2i, 1) := by decide +kernel
theorem dX7_anew_90 : decode cX7_anew 90 = .ok (.ireturn, 1) := by decide +kernel
