set_option maxRecDepth 20000 in
theorem ggX7_takes_X7_by : GoodIn wsX7_takes wsX7_by := goodIn_r _ [9, 4] rfl (by decide +kernel)
set_option maxRecDepth 20000 in
theorem gX7_takes_X7_by : GoodIn wsX7_takes (va_wsS RX7 79 yX7_by wsX7_by) := goodIn_app (goodIn_of _ (by decide +kernel)) ggX7_takes_X7_by
set_option maxRecDepth 20000 in
theorem ggX7_takes_X7_inverse : GoodIn wsX7_takes wsX7_inverse := goodIn_r _ [12, 4, 6, 7, 8, 9] rfl (by decide +kernel)
set_option maxRecDepth 20000 in
theorem gX7_takes_X7_inverse : GoodIn wsX7_takes (va_wsS RX7 96 yX7_inverse wsX7_inverse) := goodIn_app (goodIn_of _ (by decide +kernel)) ggX7_takes_X7_inverse
theorem dX7_takes_0 : decode cX7_takes 0 = .ok (.bipush 6, 2) := by decide +kernel
theorem dX7_takes_2 : decode cX7_takes 2 = .ok (.bipush 30, 2) := by decide +kernel
theorem dX7_takes_4 : decode cX7_takes 4 = .ok (.iload_n 1, 1) := by decide +kernel
theorem dX7_takes_5 : decode cX7_takes 5 = .ok (.imul, 1) := by decide +kernel
theorem dX7_takes_6 : decode cX7_takes 6 = .ok (.iload_n 2, 1) := by decide +kernel
theorem dX7_takes_7 : decode cX7_takes 7 = .ok (.iadd, 1) := by decide +kernel
theorem dX7_takes_8 : decode cX7_takes 8 = .ok (.imul, 1) := by decide +kernel
theorem dX7_takes_9 : decode cX7_takes 9 = .ok (.istore_n 3, 1) := by decide +kernel
theorem dX7_takes_10 : decode cX7_takes 10 = .ok (.aload_n 0, 1) := by decide +kernel
theorem dX7_takes_11 : decode cX7_takes 11 = .ok (.getfield 28, 3) := by decide +kernel
theorem dX7_takes_14 : decode cX7_takes 14 = .ok (.iload_n 3, 1) := by decide +kernel
theorem dX7_takes_15 : decode cX7_takes 15 = .ok (.iconst 1, 1) := by decide +kernel
theorem dX7_takes_16 : decode cX7_takes 16 = .ok (.iadd, 1) := by decide +kernel
theorem dX7_takes_17 : decode cX7_takes 17 = .ok (.iaload, 1) := by decide +kernel
theorem dX7_takes_18 : decode cX7_takes 18 = .ok (.i2l, 1) := by decide +kernel
theorem dX7_takes_19 : decode cX7_takes 19 = .ok (.lstore 4, 2) := by decide +kernel
theorem dX7_takes_21 : decode cX7_takes 21 = .ok (.aload_n 0, 1) := by decide +kernel
theorem dX7_takes_22 : decode cX7_takes 22 = .ok (.getfield 28, 3) := by decide +kernel
theorem dX7_takes_25 : decode cX7_takes 25 = .ok (.iload_n 3, 1) := by decide +kernel
theorem dX7_takes_26 : decode cX7_takes 26 = .ok (.iconst 2, 1) := by decide +kernel
theorem dX7_takes_27 : decode cX7_takes 27 = .ok (.iadd, 1) := by decide +kernel
theorem dX7_takes_28 : decode cX7_takes 28 = .ok (.iaload, 1) := by decide +kernel
theorem dX7_takes_29 : decode cX7_takes 29 = .ok (.i2l, 1) := by decide +kernel
theorem dX7_takes_30 : decode cX7_takes 30 = .ok (.lstore 6, 2) := by decide +kernel
theorem dX7_takes_32 : decode cX7_takes 32 = .ok (.aload_n 0, 1) := by decide +kernel
theorem dX7_takes_33 : decode cX7_takes 33 = .ok (.getfield 48, 3) := by decide +kernel
theorem dX7_takes_36 : decode cX7_takes 36 = .ok (.iconst 2, 1) := by decide +kernel
theorem dX7_takes_37 : decode cX7_takes 37 = .ok (.laload, 1) := by decide +kernel
theorem dX7_takes_38 : decode cX7_takes 38 = .ok (.lload 4, 2) := by decide +kernel
theorem dX7_takes_40 : decode cX7_takes 40 = .ok (.lmul, 1) := by decide +kernel
theorem dX7_takes_41 : decode cX7_takes 41 = .ok (.aload_n 0, 1) := by decide +kernel
theorem dX7_takes_42 : decode cX7_takes 42 = .ok (.getfield 48, 3) := by decide +kernel
theorem dX7_takes_45 : decode cX7_takes 45 = .ok (.iconst 3, 1) := by decide +kernel
theorem dX7_takes_46 : decode cX7_takes 46 = .ok (.laload, 1) := by decide +kernel
theorem dX7_takes_47 : decode cX7_takes 47 = .ok (.lload 6, 2) := by decide +kernel
theorem dX7_takes_49 : decode cX7_takes 49 = .ok (.lmul, 1) := by decide +kernel
theorem dX7_takes_50 : decode cX7_takes 50 = .ok (.ladd, 1) := by decide +kernel
theorem dX7_takes_51 : decode cX7_takes 51 = .ok (.invokestatic 79, 3) := by decide +kernel
theorem dX7_takes_54 : decode cX7_takes 54 = .ok (.lstore 8, 2) := by decide +kernel
theorem dX7_takes_56 : decode cX7_takes 56 = .ok (.aload_n 0, 1) := by decide +kernel
theorem dX7_takes_57 : decode cX7_takes 57 = .ok (.getfield 48, 3) := by decide +kernel
theorem dX7_takes_60 : decode cX7_takes 60 = .ok (.iconst 3, 1) := by decide +kernel
theorem dX7_takes_61 : decode cX7_takes 61 = .ok (.laload, 1) := by decide +kernel
theorem dX7_takes_62 : decode cX7_takes 62 = .ok (.lload 4, 2) := by decide +kernel
theorem dX7_takes_64 : decode cX7_takes 64 = .ok (.lmul, 1) := by decide +kernel
theorem dX7_takes_65 : decode cX7_takes 65 = .ok (.aload_n 0, 1) := by decide +kernel
theorem dX7_takes_66 : decode cX7_takes 66 = .ok (.getfield 48, 3) := by decide +kernel
theorem dX7_takes_69 : decode cX7_takes 69 = .ok (.iconst 4, 1) := by decide +kernel
theorem dX7_takes_70 : decode cX7_takes 70 = .ok (.laload, 1) := by decide +kernel
theorem dX7_takes_71 : decode cX7_takes 71 = .ok (.lload 6, 2) := by decide +kernel
theorem dX7_takes_73 : decode cX7_takes 73 = .ok (.lmul, 1) := by decide +kernel
theorem dX7_takes_74 : decode cX7_takes 74 = .ok (.ladd, 1) := by decide +kernel
theorem dX7_takes_75 : decode cX7_takes 75 = .ok (.invokestatic 79, 3) := by decide +kernel
theorem dX7_takes_78 : decode cX7_takes 78 = .ok (.lstore 10, 2) := by decide +kernel
theorem dX7_takes_80 : decode cX7_takes 80 = .ok (.aload_n 0, 1) := by decide +kernel
theorem dX7_takes_81 : decode cX7_takes 81 = .ok (.getfield 28, 3) := by decide +kernel
theorem dX7_takes_84 : decode cX7_takes 84 = .ok (.iload_n 3, 1) := by decide +kernel
theorem dX7_takes_85 : decode cX7_takes 85 = .ok (.iconst 3, 1) := by decide +kernel
theorem dX7_takes_86 : decode cX7_takes 86 = .ok (.iadd, 1) := by decide +kernel
theorem dX7_takes_87 : decode cX7_takes 87 = .ok (.iaload, 1) := by decide +kernel
theorem dX7_takes_88 : decode cX7_takes 88 = .ok (.i2l, 1) := by decide +kernel
theorem dX7_takes_89 : decode cX7_takes 89 = .ok (.lload 4, 2) := by decide +kernel
theorem dX7_takes_91 : decode cX7_takes 91 = .ok (.aload_n 0, 1) := by decide +kernel
theorem dX7_takes_92 : decode cX7_takes 92 = .ok (.getfield 48, 3) := by decide +kernel
theorem dX7_takes_95 : decode cX7_takes 95 = .ok (.iconst 0, 1) := by decide +kernel
theorem dX7_takes_96 : decode cX7_takes 96 = .ok (.laload, 1) := by decide +kernel
theorem dX7_takes_97 : decode cX7_takes 97 = .ok (.lmul, 1) := by decide +kernel
theorem dX7_takes_98 : decode cX7_takes 98 = .ok (.lsub, 1) := by decide +kernel
theorem dX7_takes_99 : decode cX7_takes 99 = .ok (.lload 6, 2) := by decide +kernel
theorem dX7_takes_101 : decode cX7_takes 101 = .ok (.aload_n 0, 1) := by decide +kernel
theorem dX7_takes_102 : decode cX7_takes 102 = .ok (.getfield 48, 3) := by decide +kernel
theorem dX7_takes_105 : decode cX7_takes 105 = .ok (.iconst 1, 1) := by decide +kernel
theorem dX7_takes_106 : decode cX7_takes 106 = .ok (.laload, 1) := by decide +kernel
theorem dX7_takes_107 : decode cX7_takes 107 = .ok (.lmul, 1) := by decide +kernel
theorem dX7_takes_108 : decode cX7_takes 108 = .ok (.lsub, 1) := by decide +kernel
theorem dX7_takes_109 : decode cX7_takes 109 = .ok (.invokestatic 79, 3) := by decide +kernel
theorem dX7_takes_112 : decode cX7_takes 112 = .ok (.lstore 12, 2) := by decide +kernel
theorem dX7_takes_114 : decode cX7_takes 114 = .ok (.lload 4, 2) := by decide +kernel
theorem dX7_takes_116 : decode cX7_takes 116 = .ok (.lload 8, 2) := by decide +kernel
theorem dX7_takes_118 : decode cX7_takes 118 = .ok (.lmul, 1) := by decide +kernel
theorem dX7_takes_119 : decode cX7_takes 119 = .ok (.lload 6, 2) := by decide +kernel
theorem dX7_takes_121 : decode cX7_takes 121 = .ok (.lload 10, 2) := by decide +kernel
theorem dX7_takes_123 : decode cX7_takes 123 = .ok (.lmul, 1) := by decide +kernel
theorem dX7_takes_124 : decode cX7_takes 124 = .ok (.ladd, 1) := by decide +kernel
theorem dX7_takes_125 : decode cX7_takes 125 = .ok (.aload_n 0, 1) := by decide +kernel
theorem dX7_takes_126 : decode cX7_takes 126 = .ok (.getfield 28, 3) := by decide +kernel
theorem dX7_takes_129 : decode cX7_takes 129 = .ok (.iload_n 3, 1) := by decide +kernel
theorem dX7_takes_130 : decode cX7_takes 130 = .ok (.iconst 4, 1) := by decide +kernel
theorem dX7_takes_131 : decode cX7_takes 131 = .ok (.iadd, 1) := by decide +kernel
theorem dX7_takes_132 : decode cX7_takes 132 = .ok (.iaload, 1) := by decide +kernel
theorem dX7_takes_133 : decode cX7_takes 133 = .ok (.i2l, 1) := by decide +kernel
theorem dX7_takes_134 : decode cX7_takes 134 = .ok (.ladd, 1) := by decide +kernel
theorem dX7_takes_135 : decode cX7_takes 135 = .ok (.invokestatic 79, 3) := by decide +kernel
theorem dX7_takes_138 : decode cX7_takes 138 = .ok (.lstore 14, 2) := by decide +kernel
theorem dX7_takes_140 : decode cX7_takes 140 = .ok (.lload 14, 2) := by decide +kernel
theorem dX7_takes_142 : decode cX7_takes 142 = .ok (.lconst 0, 1) := by decide +kernel
theorem dX7_takes_143 : decode cX7_takes 143 = .ok (.lcmp, 1) := by decide +kernel
theorem dX7_takes_144 : decode cX7_takes 144 = .ok (.ifCond .ne 5, 3) := by decide +kernel
theorem dX7_takes_147 : decode cX7_takes 147 = .ok (.iconst 0, 1) := by decide +kernel
theorem dX7_takes_148 : decode cX7_takes 148 = .ok (.ireturn, 1) := by decide +kernel
theorem dX7_takes_149 : decode cX7_takes 149 = .ok (.lload 14, 2) := by decide +kernel
theorem dX7_takes_151 : decode cX7_takes 151 = .ok (.invokestatic 96, 3) := by decide +kernel
theorem dX7_takes_154 : decode cX7_takes 154 = .ok (.lstore 16, 2) := by decide +kernel
theorem dX7_takes_156 : decode cX7_takes 156 = .ok (.aload_n 0, 1) := by decide +kernel
theorem dX7_takes_157 : decode cX7_takes 157 = .ok (.getfield 42, 3) := by decide +kernel
theorem dX7_takes_160 : decode cX7_takes 160 = .ok (.iconst 3, 1) := by decide +kernel
theorem dX7_takes_161 : decode cX7_takes 161 = .ok (.iload_n 2, 1) := by decide +kernel
theorem dX7_takes_162 : decode cX7_takes 162 = .ok (.imul, 1) := by decide +kernel
theorem dX7_takes_163 : decode cX7_takes 163 = .ok (.lload 12, 2) := by decide +kernel
theorem dX7_takes_165 : decode cX7_takes 165 = .ok (.lastore, 1) := by decide +kernel
theorem dX7_takes_166 : decode cX7_takes 166 = .ok (.aload_n 0, 1) := by decide +kernel
theorem dX7_takes_167 : decode cX7_takes 167 = .ok (.getfield 42, 3) := by decide +kernel
theorem dX7_takes_170 : decode cX7_takes 170 = .ok (.iconst 3, 1) := by decide +kernel
theorem dX7_takes_171 : decode cX7_takes 171 = .ok (.iload_n 2, 1) := by decide +kernel
theorem dX7_takes_172 : decode cX7_takes 172 = .ok (.imul, 1) := by decide +kernel
theorem dX7_takes_173 : decode cX7_takes 173 = .ok (.iconst 1, 1) := by decide +kernel
theorem dX7_takes_174 : decode cX7_takes 174 = .ok (.iadd, 1) := by decide +kernel
theorem dX7_takes_175 : decode cX7_takes 175 = .ok (.lload 14, 2) := by decide +kernel
theorem dX7_takes_177 : decode cX7_takes 177 = .ok (.lastore, 1) := by decide +kernel
theorem dX7_takes_178 : decode cX7_takes 178 = .ok (.aload_n 0, 1) := by decide +kernel
theorem dX7_takes_179 : decode cX7_takes 179 = .ok (.getfield 42, 3) := by decide +kernel
theorem dX7_takes_182 : decode cX7_takes 182 = .ok (.iconst 3, 1) := by decide +kernel
theorem dX7_takes_183 : decode cX7_takes 183 = .ok (.iload_n 2, 1) := by decide +kernel
theorem dX7_takes_184 : decode cX7_takes 184 = .ok (.imul, 1) := by decide +kernel
theorem dX7_takes_185 : decode cX7_takes 185 = .ok (.iconst 2, 1) := by decide +kernel
theorem dX7_takes_186 : decode cX7_takes 186 = .ok (.iadd, 1) := by decide +kernel
theorem dX7_takes_187 : decode cX7_takes 187 = .ok (.lload 12, 2) := by decide +kernel
theorem dX7_takes_189 : decode cX7_takes 189 = .ok (.lload 12, 2) := by decide +kernel
theorem dX7_takes_191 : decode cX7_takes 191 = .ok (.lmul, 1) := by decide +kernel
theorem dX7_takes_192 : decode cX7_takes 192 = .ok (.ldc2_w 77, 3) := by decide +kernel
theorem dX7_takes_195 : decode cX7_takes 195 = .ok (.lrem, 1) := by decide +kernel
theorem dX7_takes_196 : decode cX7_takes 196 = .ok (.lload 16, 2) := by decide +kernel
theorem dX7_takes_198 : decode cX7_takes 198 = .ok (.lmul, 1) := by decide +kernel
theorem dX7_takes_199 : decode cX7_takes 199 = .ok (.invokestatic 79, 3) := by decide +kernel
theorem dX7_takes_202 : decode cX7_takes 202 = .ok (.lastore, 1) := by decide +kernel
theorem dX7_takes_203 : decode cX7_takes 203 = .ok (.aload_n 0, 1) := by decide +kernel
theorem dX7_takes_204 : decode cX7_takes 204 = .ok (.getfield 45, 3) := by decide +kernel
theorem dX7_takes_207 : decode cX7_takes 207 = .ok (.iload_n 2, 1) := by decide +kernel
theorem dX7_takes_208 : decode cX7_takes 208 = .ok (.aload_n 0, 1) := by decide +kernel
theorem dX7_takes_209 : decode cX7_takes 209 = .ok (.getfield 42, 3) := by decide +kernel
theorem dX7_takes_212 : decode cX7_takes 212 = .ok (.iconst 3, 1) := by decide +kernel
theorem dX7_takes_213 : decode cX7_takes 213 = .ok (.iload_n 2, 1) := by decide +kernel
theorem dX7_takes_214 : decode cX7_takes 214 = .ok (.imul, 1) := by decide +kernel
theorem dX7_takes_215 : decode cX7_takes 215 = .ok (.iconst 2, 1) := by decide +kernel
theorem dX7_takes_216 : decode cX7_takes 216 = .ok (.iadd, 1) := by decide +kernel
theorem dX7_takes_217 : decode cX7_takes 217 = .ok (.laload, 1) := by decide +kernel
theorem dX7_takes_218 : decode cX7_takes 218 = .ok (.aload_n 0, 1) := by decide +kernel
theorem dX7_takes_219 : decode cX7_takes 219 = .ok (.getfield 28, 3) := by decide +kernel
theorem dX7_takes_222 : decode cX7_takes 222 = .ok (.iload_n 3, 1) := by decide +kernel
theorem dX7_takes_223 : decode cX7_takes 223 = .ok (.iconst 5, 1) := by decide +kernel
theorem dX7_takes_224 : decode cX7_takes 224 = .ok (.iadd, 1) := by decide +kernel
theorem dX7_takes_225 : decode cX7_takes 225 = .ok (.iaload, 1) := by decide +kernel
theorem dX7_takes_226 : decode cX7_takes 226 = .ok (.i2l, 1) := by decide +kernel
theorem dX7_takes_227 : decode cX7_takes 227 = .ok (.lcmp, 1) := by decide +kernel
theorem dX7_takes_228 : decode cX7_takes 228 = .ok (.ifCond .le 7, 3) := by decide +kernel
theorem dX7_takes_231 : decode cX7_takes 231 = .ok (.iconst 1, 1) := by decide +kernel
theorem dX7_takes_232 : decode cX7_takes 232 = .ok (.goto 4, 3) := by decide +kernel
theorem dX7_takes_235 : decode cX7_takes 235 = .ok (.iconst 0, 1) := by decide +kernel
theorem dX7_takes_236 : decode cX7_takes 236 = .ok (.bastore, 1) := by decide +kernel
theorem dX7_takes_237 : decode cX7_takes 237 = .ok (.aload_n 0, 1) := by decide +kernel
theorem dX7_takes_238 : decode cX7_takes 238 = .ok (.getfield 45, 3) := by decide +kernel
theorem dX7_takes_241 : decode cX7_takes 241 = .ok (.iload_n 2, 1) := by decide +kernel
theorem dX7_takes_242 : decode cX7_takes 242 = .ok (.baload, 1) := by decide +kernel
theorem dX7_takes_243 : decode cX7_takes 243 = .ok (.ifCond .ne 143, 3) := by decide +kernel
theorem dX7_takes_246 : decode cX7_takes 246 = .ok (.aload_n 0, 1) := by decide +kernel
theorem dX7_takes_247 : decode cX7_takes 247 = .ok (.getfield 48, 3) := by decide +kernel
theorem dX7_takes_250 : decode cX7_takes 250 = .ok (.iconst 0, 1) := by decide +kernel
theorem dX7_takes_251 : decode cX7_takes 251 = .ok (.aload_n 0, 1) := by decide +kernel
theorem dX7_takes_252 : decode cX7_takes 252 = .ok (.getfield 48, 3) := by decide +kernel
theorem dX7_takes_255 : decode cX7_takes 255 = .ok (.iconst 0, 1) := by decide +kernel
theorem dX7_takes_256 : decode cX7_takes 256 = .ok (.laload, 1) := by decide +kernel
theorem dX7_takes_257 : decode cX7_takes 257 = .ok (.lload 8, 2) := by decide +kernel
theorem dX7_takes_259 : decode cX7_takes 259 = .ok (.lload 16, 2) := by decide +kernel
theorem dX7_takes_261 : decode cX7_takes 261 = .ok (.lmul, 1) := by decide +kernel
theorem dX7_takes_262 : decode cX7_takes 262 = .ok (.ldc2_w 77, 3) := by decide +kernel
theorem dX7_takes_265 : decode cX7_takes 265 = .ok (.lrem, 1) := by decide +kernel
theorem dX7_takes_266 : decode cX7_takes 266 = .ok (.lload 12, 2) := by decide +kernel
theorem dX7_takes_268 : decode cX7_takes 268 = .ok (.lmul, 1) := by decide +kernel
theorem dX7_takes_269 : decode cX7_takes 269 = .ok (.ladd, 1) := by decide +kernel
theorem dX7_takes_270 : decode cX7_takes 270 = .ok (.invokestatic 79, 3) := by decide +kernel
theorem dX7_takes_273 : decode cX7_takes 273 = .ok (.lastore, 1) := by decide +kernel
theorem dX7_takes_274 : decode cX7_takes 274 = .ok (.aload_n 0, 1) := by decide +kernel
theorem dX7_takes_275 : decode cX7_takes 275 = .ok (.getfield 48, 3) := by decide +kernel
theorem dX7_takes_278 : decode cX7_takes 278 = .ok (.iconst 1, 1) := by decide +kernel
theorem dX7_takes_279 : decode cX7_takes 279 = .ok (.aload_n 0, 1) := by decide +kernel
theorem dX7_takes_280 : decode cX7_takes 280 = .ok (.getfield 48, 3) := by decide +kernel
theorem dX7_takes_283 : decode cX7_takes 283 = .ok (.iconst 1, 1) := by decide +kernel
theorem dX7_takes_284 : decode cX7_takes 284 = .ok (.laload, 1) := by decide +kernel
theorem dX7_takes_285 : decode cX7_takes 285 = .ok (.lload 10, 2) := by decide +kernel
theorem dX7_takes_287 : decode cX7_takes 287 = .ok (.lload 16, 2) := by decide +kernel
theorem dX7_takes_289 : decode cX7_takes 289 = .ok (.lmul, 1) := by decide +kernel
theorem dX7_takes_290 : decode cX7_takes 290 = .ok (.ldc2_w 77, 3) := by decide +kernel
theorem dX7_takes_293 : decode cX7_takes 293 = .ok (.lrem, 1) := by decide +kernel
theorem dX7_takes_294 : decode cX7_takes 294 = .ok (.lload 12, 2) := by decide +kernel
theorem dX7_takes_296 : decode cX7_takes 296 = .ok (.lmul, 1) := by decide +kernel
theorem dX7_takes_297 : decode cX7_takes 297 = .ok (.ladd, 1) := by decide +kernel
theorem dX7_takes_298 : decode cX7_takes 298 = .ok (.invokestatic 79, 3) := by decide +kernel
theorem dX7_takes_301 : decode cX7_takes 301 = .ok (.lastore, 1) := by decide +kernel
theorem dX7_takes_302 : decode cX7_takes 302 = .ok (.aload_n 0, 1) := by decide +kernel
theorem dX7_takes_303 : decode cX7_takes 303 = .ok (.getfield 48, 3) := by decide +kernel
theorem dX7_takes_306 : decode cX7_takes 306 = .ok (.iconst 2, 1) := by decide +kernel
theorem dX7_takes_307 : decode cX7_takes 307 = .ok (.aload_n 0, 1) := by decide +kernel
theorem dX7_takes_308 : decode cX7_takes 308 = .ok (.getfield 48, 3) := by decide +kernel
theorem dX7_takes_311 : decode cX7_takes 311 = .ok (.iconst 2, 1) := by decide +kernel
theorem dX7_takes_312 : decode cX7_takes 312 = .ok (.laload, 1) := by decide +kernel
theorem dX7_takes_313 : decode cX7_takes 313 = .ok (.lload 8, 2) := by decide +kernel
theorem dX7_takes_315 : decode cX7_takes 315 = .ok (.lload 16, 2) := by decide +kernel
theorem dX7_takes_317 : decode cX7_takes 317 = .ok (.lmul, 1) := by decide +kernel
theorem dX7_takes_318 : decode cX7_takes 318 = .ok (.ldc2_w 77, 3) := by decide +kernel
theorem dX7_takes_321 : decode cX7_takes 321 = .ok (.lrem, 1) := by decide +kernel
theorem dX7_takes_322 : decode cX7_takes 322 = .ok (.lload 8, 2) := by decide +kernel
theorem dX7_takes_324 : decode cX7_takes 324 = .ok (.lmul, 1) := by decide +kernel
theorem dX7_takes_325 : decode cX7_takes 325 = .ok (.lsub, 1) := by decide +kernel
theorem dX7_takes_326 : decode cX7_takes 326 = .ok (.invokestatic 79, 3) := by decide +kernel
theorem dX7_takes_329 : decode cX7_takes 329 = .ok (.lastore, 1) := by decide +kernel
theorem dX7_takes_330 : decode cX7_takes 330 = .ok (.aload_n 0, 1) := by decide +kernel
theorem dX7_takes_331 : decode cX7_takes 331 = .ok (.getfield 48, 3) := by decide +kernel
theorem dX7_takes_334 : decode cX7_takes 334 = .ok (.iconst 3, 1) := by decide +kernel
theorem dX7_takes_335 : decode cX7_takes 335 = .ok (.aload_n 0, 1) := by decide +kernel
theorem dX7_takes_336 : decode cX7_takes 336 = .ok (.getfield 48, 3) := by decide +kernel
theorem dX7_takes_339 : decode cX7_takes 339 = .ok (.iconst 3, 1) := by decide +kernel
theorem dX7_takes_340 : decode cX7_takes 340 = .ok (.laload, 1) := by decide +kernel
theorem dX7_takes_341 : decode cX7_takes 341 = .ok (.lload 8, 2) := by decide +kernel
theorem dX7_takes_343 : decode cX7_takes 343 = .ok (.lload 16, 2) := by decide +kernel
theorem dX7_takes_345 : decode cX7_takes 345 = .ok (.lmul, 1) := by decide +kernel
theorem dX7_takes_346 : decode cX7_takes 346 = .ok (.ldc2_w 77, 3) := by decide +kernel
theorem dX7_takes_349 : decode cX7_takes 349 = .ok (.lrem, 1) := by decide +kernel
theorem dX7_takes_350 : decode cX7_takes 350 = .ok (.lload 10, 2) := by decide +kernel
theorem dX7_takes_352 : decode cX7_takes 352 = .ok (.lmul, 1) := by decide +kernel
theorem dX7_takes_353 : decode cX7_takes 353 = .ok (.lsub, 1) := by decide +kernel
theorem dX7_takes_354 : decode cX7_takes 354 = .ok (.invokestatic 79, 3) := by decide +kernel
theorem dX7_takes_357 : decode cX7_takes 357 = .ok (.lastore, 1) := by decide +kernel
theorem dX7_takes_358 : decode cX7_takes 358 = .ok (.aload_n 0, 1) := by decide +kernel
theorem dX7_takes_359 : decode cX7_takes 359 = .ok (.getfield 48, 3) := by decide +kernel
theorem dX7_takes_362 : decode cX7_takes 362 = .ok (.iconst 4, 1) := by decide +kernel
theorem dX7_takes_363 : decode cX7_takes 363 = .ok (.aload_n 0, 1) := by decide +kernel
theorem dX7_takes_364 : decode cX7_takes 364 = .ok (.getfield 48, 3) := by decide +kernel
theorem dX7_takes_367 : decode cX7_takes 367 = .ok (.iconst 4, 1) := by decide +kernel
theorem dX7_takes_368 : decode cX7_takes 368 = .ok (.laload, 1) := by decide +kernel
theorem dX7_takes_369 : decode cX7_takes 369 = .ok (.lload 10, 2) := by decide +kernel
theorem dX7_takes_371 : decode cX7_takes 371 = .ok (.lload 16, 2) := by decide +kernel
theorem dX7_takes_373 : decode cX7_takes 373 = .ok (.lmul, 1) := by decide +kernel
theorem dX7_takes_374 : decode cX7_takes 374 = .ok (.ldc2_w 77, 3) := by decide +kernel
theorem dX7_takes_377 : decode cX7_takes 377 = .ok (.lrem, 1) := by decide +kernel
theorem dX7_takes_378 : decode cX7_takes 378 = .ok (.lload 10, 2) := by decide +kernel
theorem dX7_takes_380 : decode cX7_takes 380 = .ok (.lmul, 1) := by decide +kernel
theorem dX7_takes_381 : decode cX7_takes 381 = .ok (.lsub, 1) := by decide +kernel
theorem dX7_takes_382 : decode cX7_takes 382 = .ok (.invokestatic 79, 3) := by decide +kernel
theorem dX7_takes_385 : decode cX7_takes 385 = .ok (.lastore, 1) := by decide +kernel
theorem dX7_takes_386 : decode cX7_takes 386 = .ok (.iconst 1, 1) := by decide +kernel
theorem dX7_takes_387 : decode cX7_takes 387 = .ok (.ireturn, 1) := by decide +kernel
set_option maxRecDepth 20000 in
theorem ggX7_goes_X7_predicts : GoodIn wsX7_goes wsX7_predicts := goodIn_r _ [13, 14, 1, 15, 16, 12, 17, 18, 28, 29, 30, 31, 32, 33, 34, 35, 36, 37, 38, 39, 40, 41, 42, 43, 44, 45, 46, 47] rfl (by decide +kernel)
set_option maxRecDepth 20000 in
theorem gX7_goes_X7_predicts : GoodIn wsX7_goes (wsV RX7 99 RX7 yX7_predicts wsX7_predicts) := goodIn_app (goodIn_of _ (by decide +kernel)) ggX7_goes_X7_predicts
set_option maxRecDepth 20000 in
theorem ggX7_goes_X7_takes : GoodIn wsX7_goes wsX7_takes := goodIn_r _ [22, 6, 1, 23, 18, 24, 15, 16, 12, 17, 25, 26, 27, 28, 29, 30, 31, 32, 33, 34, 35, 36, 37, 38, 39, 40, 41, 42, 43, 44, 45, 46, 47] rfl (by decide +kernel)
set_option maxRecDepth 20000 in
theorem gX7_goes_X7_takes : GoodIn wsX7_goes (wsV RX7 103 RX7 yX7_takes wsX7_takes) := goodIn_app (goodIn_of _ (by decide +kernel)) ggX7_goes_X7_takes
theorem dX7_goes_0 : decode cX7_goes 0 = .ok (.iconst 0, 1) := by decide +kernel
theorem dX7_goes_1 : decode cX7_goes 1 = .ok (.istore_n 2, 1) := by decide +kernel
theorem dX7_goes_2 : decode cX7_goes 2 = .ok (.iload_n 2, 1) := by decide +kernel
theorem dX7_goes_3 : decode cX7_goes 3 = .ok (.iconst 5, 1) := by decide +kernel
theorem dX7_goes_4 : decode cX7_goes 4 = .ok (.if_icmp .ge 26, 3) := by decide +kernel
theorem dX7_goes_7 : decode cX7_goes 7 = .ok (.aload_n 0, 1) := by decide +kernel
theorem dX7_goes_8 : decode cX7_goes 8 = .ok (.getfield 48, 3) := by decide +kernel
theorem dX7_goes_11 : decode cX7_goes 11 = .ok (.iload_n 2, 1) := by decide +kernel
theorem dX7_goes_12 : decode cX7_goes 12 = .ok (.aload_n 0, 1) := by decide +kernel
theorem dX7_goes_13 : decode cX7_goes 13 = .ok (.getfield 16, 3) := by decide +kernel
theorem dX7_goes_16 : decode cX7_goes 16 = .ok (.iconst 5, 1) := by decide +kernel
theorem dX7_goes_17 : decode cX7_goes 17 = .ok (.iload_n 1, 1) := by decide +kernel
theorem dX7_goes_18 : decode cX7_goes 18 = .ok (.imul, 1) := by decide +kernel
theorem dX7_goes_19 : decode cX7_goes 19 = .ok (.iload_n 2, 1) := by decide +kernel
theorem dX7_goes_20 : decode cX7_goes 20 = .ok (.iadd, 1) := by decide +kernel
theorem dX7_goes_21 : decode cX7_goes 21 = .ok (.iaload, 1) := by decide +kernel
theorem dX7_goes_22 : decode cX7_goes 22 = .ok (.i2l, 1) := by decide +kernel
theorem dX7_goes_23 : decode cX7_goes 23 = .ok (.lastore, 1) := by decide +kernel
theorem dX7_goes_24 : decode cX7_goes 24 = .ok (.iinc 2 1, 3) := by decide +kernel
theorem dX7_goes_27 : decode cX7_goes 27 = .ok (.goto (-25), 3) := by decide +kernel
theorem dX7_goes_30 : decode cX7_goes 30 = .ok (.iconst 0, 1) := by decide +kernel
theorem dX7_goes_31 : decode cX7_goes 31 = .ok (.istore_n 2, 1) := by decide +kernel
theorem dX7_goes_32 : decode cX7_goes 32 = .ok (.iload_n 2, 1) := by decide +kernel
theorem dX7_goes_33 : decode cX7_goes 33 = .ok (.aload_n 0, 1) := by decide +kernel
theorem dX7_goes_34 : decode cX7_goes 34 = .ok (.getfield 19, 3) := by decide +kernel
theorem dX7_goes_37 : decode cX7_goes 37 = .ok (.iload_n 1, 1) := by decide +kernel
theorem dX7_goes_38 : decode cX7_goes 38 = .ok (.iaload, 1) := by decide +kernel
theorem dX7_goes_39 : decode cX7_goes 39 = .ok (.if_icmp .gt 149, 3) := by decide +kernel
theorem dX7_goes_42 : decode cX7_goes 42 = .ok (.iload_n 2, 1) := by decide +kernel
theorem dX7_goes_43 : decode cX7_goes 43 = .ok (.ifCond .le 8, 3) := by decide +kernel
theorem dX7_goes_46 : decode cX7_goes 46 = .ok (.aload_n 0, 1) := by decide +kernel
theorem dX7_goes_47 : decode cX7_goes 47 = .ok (.iload_n 1, 1) := by decide +kernel
theorem dX7_goes_48 : decode cX7_goes 48 = .ok (.invokevirtual 99, 3) := by decide +kernel
theorem dX7_goes_51 : decode cX7_goes 51 = .ok (.iconst 0, 1) := by decide +kernel
theorem dX7_goes_52 : decode cX7_goes 52 = .ok (.istore_n 3, 1) := by decide +kernel
theorem dX7_goes_53 : decode cX7_goes 53 = .ok (.iload_n 3, 1) := by decide +kernel
theorem dX7_goes_54 : decode cX7_goes 54 = .ok (.iconst 5, 1) := by decide +kernel
theorem dX7_goes_55 : decode cX7_goes 55 = .ok (.if_icmp .ge 25, 3) := by decide +kernel
theorem dX7_goes_58 : decode cX7_goes 58 = .ok (.aload_n 0, 1) := by decide +kernel
theorem dX7_goes_59 : decode cX7_goes 59 = .ok (.getfield 35, 3) := by decide +kernel
theorem dX7_goes_62 : decode cX7_goes 62 = .ok (.iconst 5, 1) := by decide +kernel
theorem dX7_goes_63 : decode cX7_goes 63 = .ok (.iload_n 2, 1) := by decide +kernel
theorem dX7_goes_64 : decode cX7_goes 64 = .ok (.imul, 1) := by decide +kernel
theorem dX7_goes_65 : decode cX7_goes 65 = .ok (.iload_n 3, 1) := by decide +kernel
theorem dX7_goes_66 : decode cX7_goes 66 = .ok (.iadd, 1) := by decide +kernel
theorem dX7_goes_67 : decode cX7_goes 67 = .ok (.aload_n 0, 1) := by decide +kernel
theorem dX7_goes_68 : decode cX7_goes 68 = .ok (.getfield 48, 3) := by decide +kernel
theorem dX7_goes_71 : decode cX7_goes 71 = .ok (.iload_n 3, 1) := by decide +kernel
theorem dX7_goes_72 : decode cX7_goes 72 = .ok (.laload, 1) := by decide +kernel
theorem dX7_goes_73 : decode cX7_goes 73 = .ok (.lastore, 1) := by decide +kernel
theorem dX7_goes_74 : decode cX7_goes 74 = .ok (.iinc 3 1, 3) := by decide +kernel
theorem dX7_goes_77 : decode cX7_goes 77 = .ok (.goto (-24), 3) := by decide +kernel
theorem dX7_goes_80 : decode cX7_goes 80 = .ok (.iconst 0, 1) := by decide +kernel
theorem dX7_goes_81 : decode cX7_goes 81 = .ok (.istore_n 3, 1) := by decide +kernel
theorem dX7_goes_82 : decode cX7_goes 82 = .ok (.iload_n 3, 1) := by decide +kernel
theorem dX7_goes_83 : decode cX7_goes 83 = .ok (.aload_n 0, 1) := by decide +kernel
theorem dX7_goes_84 : decode cX7_goes 84 = .ok (.getfield 25, 3) := by decide +kernel
theorem dX7_goes_87 : decode cX7_goes 87 = .ok (.iload_n 1, 1) := by decide +kernel
theorem dX7_goes_88 : decode cX7_goes 88 = .ok (.iaload, 1) := by decide +kernel
theorem dX7_goes_89 : decode cX7_goes 89 = .ok (.if_icmp .ge 64, 3) := by decide +kernel
theorem dX7_goes_92 : decode cX7_goes 92 = .ok (.aload_n 0, 1) := by decide +kernel
theorem dX7_goes_93 : decode cX7_goes 93 = .ok (.getfield 28, 3) := by decide +kernel
theorem dX7_goes_96 : decode cX7_goes 96 = .ok (.bipush 6, 2) := by decide +kernel
theorem dX7_goes_98 : decode cX7_goes 98 = .ok (.bipush 30, 2) := by decide +kernel
theorem dX7_goes_100 : decode cX7_goes 100 = .ok (.iload_n 1, 1) := by decide +kernel
theorem dX7_goes_101 : decode cX7_goes 101 = .ok (.imul, 1) := by decide +kernel
theorem dX7_goes_102 : decode cX7_goes 102 = .ok (.iload_n 3, 1) := by decide +kernel
theorem dX7_goes_103 : decode cX7_goes 103 = .ok (.iadd, 1) := by decide +kernel
theorem dX7_goes_104 : decode cX7_goes 104 = .ok (.imul, 1) := by decide +kernel
theorem dX7_goes_105 : decode cX7_goes 105 = .ok (.iaload, 1) := by decide +kernel
theorem dX7_goes_106 : decode cX7_goes 106 = .ok (.iload_n 2, 1) := by decide +kernel
theorem dX7_goes_107 : decode cX7_goes 107 = .ok (.if_icmp .ne 21, 3) := by decide +kernel
theorem dX7_goes_110 : decode cX7_goes 110 = .ok (.aload_n 0, 1) := by decide +kernel
theorem dX7_goes_111 : decode cX7_goes 111 = .ok (.getfield 31, 3) := by decide +kernel
theorem dX7_goes_114 : decode cX7_goes 114 = .ok (.bipush 30, 2) := by decide +kernel
theorem dX7_goes_116 : decode cX7_goes 116 = .ok (.iload_n 1, 1) := by decide +kernel
theorem dX7_goes_117 : decode cX7_goes 117 = .ok (.imul, 1) := by decide +kernel
theorem dX7_goes_118 : decode cX7_goes 118 = .ok (.iload_n 3, 1) := by decide +kernel
theorem dX7_goes_119 : decode cX7_goes 119 = .ok (.iadd, 1) := by decide +kernel
theorem dX7_goes_120 : decode cX7_goes 120 = .ok (.baload, 1) := by decide +kernel
theorem dX7_goes_121 : decode cX7_goes 121 = .ok (.ifCond .ne 7, 3) := by decide +kernel
theorem dX7_goes_124 : decode cX7_goes 124 = .ok (.iconst 1, 1) := by decide +kernel
theorem dX7_goes_125 : decode cX7_goes 125 = .ok (.goto 4, 3) := by decide +kernel
theorem dX7_goes_128 : decode cX7_goes 128 = .ok (.iconst 0, 1) := by decide +kernel
theorem dX7_goes_129 : decode cX7_goes 129 = .ok (.istore 4, 2) := by decide +kernel
theorem dX7_goes_131 : decode cX7_goes 131 = .ok (.iload 4, 2) := by decide +kernel
theorem dX7_goes_133 : decode cX7_goes 133 = .ok (.ifCond .eq 14, 3) := by decide +kernel
theorem dX7_goes_136 : decode cX7_goes 136 = .ok (.aload_n 0, 1) := by decide +kernel
theorem dX7_goes_137 : decode cX7_goes 137 = .ok (.iload_n 1, 1) := by decide +kernel
theorem dX7_goes_138 : decode cX7_goes 138 = .ok (.iload_n 3, 1) := by decide +kernel
theorem dX7_goes_139 : decode cX7_goes 139 = .ok (.invokevirtual 103, 3) := by decide +kernel
theorem dX7_goes_142 : decode cX7_goes 142 = .ok (.ifCond .ne 5, 3) := by decide +kernel
theorem dX7_goes_145 : decode cX7_goes 145 = .ok (.iconst 0, 1) := by decide +kernel
theorem dX7_goes_146 : decode cX7_goes 146 = .ok (.ireturn, 1) := by decide +kernel
theorem dX7_goes_147 : decode cX7_goes 147 = .ok (.iinc 3 1, 3) := by decide +kernel
theorem dX7_goes_150 : decode cX7_goes 150 = .ok (.goto (-68), 3) := by decide +kernel
theorem dX7_goes_153 : decode cX7_goes 153 = .ok (.iconst 0, 1) := by decide +kernel
theorem dX7_goes_154 : decode cX7_goes 154 = .ok (.istore_n 3, 1) := by decide +kernel
theorem dX7_goes_155 : decode cX7_goes 155 = .ok (.iload_n 3, 1) := by decide +kernel
theorem dX7_goes_156 : decode cX7_goes 156 = .ok (.iconst 5, 1) := by decide +kernel
theorem dX7_goes_157 : decode cX7_goes 157 = .ok (.if_icmp .ge 25, 3) := by decide +kernel
theorem dX7_goes_160 : decode cX7_goes 160 = .ok (.aload_n 0, 1) := by decide +kernel
theorem dX7_goes_161 : decode cX7_goes 161 = .ok (.getfield 39, 3) := by decide +kernel
theorem dX7_goes_164 : decode cX7_goes 164 = .ok (.iconst 5, 1) := by decide +kernel
theorem dX7_goes_165 : decode cX7_goes 165 = .ok (.iload_n 2, 1) := by decide +kernel
theorem dX7_goes_166 : decode cX7_goes 166 = .ok (.imul, 1) := by decide +kernel
theorem dX7_goes_167 : decode cX7_goes 167 = .ok (.iload_n 3, 1) := by decide +kernel
theorem dX7_goes_168 : decode cX7_goes 168 = .ok (.iadd, 1) := by decide +kernel
theorem dX7_goes_169 : decode cX7_goes 169 = .ok (.aload_n 0, 1) := by decide +kernel
theorem dX7_goes_170 : decode cX7_goes 170 = .ok (.getfield 48, 3) := by decide +kernel
theorem dX7_goes_173 : decode cX7_goes 173 = .ok (.iload_n 3, 1) := by decide +kernel
theorem dX7_goes_174 : decode cX7_goes 174 = .ok (.laload, 1) := by decide +kernel
theorem dX7_goes_175 : decode cX7_goes 175 = .ok (.lastore, 1) := by decide +kernel
theorem dX7_goes_176 : decode cX7_goes 176 = .ok (.iinc 3 1, 3) := by decide +kernel
theorem dX7_goes_179 : decode cX7_goes 179 = .ok (.goto (-24), 3) := by decide +kernel
theorem dX7_goes_182 : decode cX7_goes 182 = .ok (.iinc 2 1, 3) := by decide +kernel
theorem dX7_goes_185 : decode cX7_goes 185 = .ok (.goto (-153), 3) := by decide +kernel
theorem dX7_goes_188 : decode cX7_goes 188 = .ok (.iconst 1, 1) := by decide +kernel
theorem dX7_goes_189 : decode cX7_goes 189 = .ok (.ireturn, 1) := by decide +kernel
set_option maxRecDepth 20000 in
theorem ggX7_measure_X7_isOne : GoodIn wsX7_measure wsX7_isOne := goodIn_r _ [6, 7, 8, 9, 5, 10, 53, 54, 55, 56, 57, 58, 59, 60, 61, 62, 63, 64, 65, 66, 67, 68, 69, 70, 71, 72] rfl (by decide +kernel)
set_option maxRecDepth 20000 in
theorem gX7_measure_X7_isOne : GoodIn wsX7_measure (wsV RX7 93 RX7 yX7_isOne wsX7_isOne) := goodIn_app (goodIn_of _ (by decide +kernel)) ggX7_measure_X7_isOne
set_option maxRecDepth 20000 in
theorem ggX7_measure_X7_late : GoodIn wsX7_measure wsX7_late := goodIn_r _ [14, 1, 15, 16, 17, 2, 3, 4, 5, 6, 7, 8, 9, 10, 18, 19, 20, 21, 22, 23, 24, 25, 26, 27, 28, 29, 30, 31, 32, 33, 34, 35, 36, 37, 38, 39, 40, 41, 42, 43, 44, 45, 46, 47, 48, 49, 50, 51, 52, 53, 54, 55, 56, 57, 58, 59, 60, 61, 62, 63, 64, 65, 66, 67, 68, 69, 70, 71, 72] rfl (by decide +kernel)
set_option maxRecDepth 20000 in
theorem gX7_measure_X7_late : GoodIn wsX7_measure (wsV RX7 107 RX7 yX7_late wsX7_late) := goodIn_app (goodIn_of _ (by decide +kernel)) ggX7_measure_X7_late
theorem dX7_measure_0 : decode cX7_measure 0 = .ok (.aload_n 0, 1) := by decide +kernel
theorem dX7_measure_1 : decode cX7_measure 1 = .ok (.iload_n 1, 1) := by decide +kernel
theorem dX7_measure_2 : decode cX7_measure 2 = .ok (.aload_n 0, 1) := by decide +kernel
theorem dX7_measure_3 : decode cX7_measure 3 = .ok (.iload_n 1, 1) := by decide +kernel
theorem dX7_measure_4 : decode cX7_measure 4 = .ok (.invokevirtual 93, 3) := by decide +kernel
theorem dX7_measure_7 : decode cX7_measure 7 = .ok (.ifCond .eq 12, 3) := by decide +kernel
theorem dX7_measure_10 : decode cX7_measure 10 = .ok (.aload_n 0, 1) := by decide +kernel
theorem dX7_measure_11 : decode cX7_measure 11 = .ok (.getfield 19, 3) := by decide +kernel
theorem dX7_measure_14 : decode cX7_measure 14 = .ok (.iload_n 1, 1) := by decide +kernel
theorem dX7_measure_15 : decode cX7_measure 15 = .ok (.iaload, 1) := by decide +kernel
theorem dX7_measure_16 : decode cX7_measure 16 = .ok (.goto 4, 3) := by decide +kernel
theorem dX7_measure_19 : decode cX7_measure 19 = .ok (.iconst 0, 1) := by decide +kernel
theorem dX7_measure_20 : decode cX7_measure 20 = .ok (.iload_n 2, 1) := by decide +kernel
theorem dX7_measure_21 : decode cX7_measure 21 = .ok (.iload_n 3, 1) := by decide +kernel
theorem dX7_measure_22 : decode cX7_measure 22 = .ok (.iload 4, 2) := by decide +kernel
theorem dX7_measure_24 : decode cX7_measure 24 = .ok (.iload 5, 2) := by decide +kernel
theorem dX7_measure_26 : decode cX7_measure 26 = .ok (.invokevirtual 107, 3) := by decide +kernel
theorem dX7_measure_29 : decode cX7_measure 29 = .ok (.ireturn, 1) := by decide +kernel
