set_option maxRecDepth 20000 in
theorem ggX7_smoothed_X7_isOne : GoodIn wsX7_smoothed wsX7_isOne := goodIn_r _ [10, 11, 12, 13, 9, 14, 51, 52, 53, 54, 55, 56, 57, 58, 59, 60, 61, 62, 63, 64, 65, 66, 67, 68, 69, 70] rfl (by decide +kernel)
set_option maxRecDepth 20000 in
theorem gX7_smoothed_X7_isOne : GoodIn wsX7_smoothed (wsV RX7 93 RX7 yX7_isOne wsX7_isOne) := goodIn_app (goodIn_of _ (by decide +kernel)) ggX7_smoothed_X7_isOne
set_option maxRecDepth 20000 in
theorem ggX7_smoothed_X7_isIn : GoodIn wsX7_smoothed wsX7_isIn := goodIn_r _ [14] rfl (by decide +kernel)
set_option maxRecDepth 20000 in
theorem gX7_smoothed_X7_isIn : GoodIn wsX7_smoothed (va_wsS RX7 67 yX7_isIn wsX7_isIn) := goodIn_app (goodIn_of _ (by decide +kernel)) ggX7_smoothed_X7_isIn
set_option maxRecDepth 20000 in
theorem ggX7_smoothed_X7_goes : GoodIn wsX7_smoothed wsX7_goes := goodIn_r _ [18, 2, 19, 1, 3, 20, 21, 22, 5, 23, 24, 25, 9, 26, 4, 27, 28, 29, 30, 31, 32, 33, 34, 35, 36, 37, 38, 39, 51, 52, 53, 54, 55, 56, 57, 58, 59, 60, 61, 62, 63, 64, 65, 66, 67, 68, 69, 70] rfl (by decide +kernel)
set_option maxRecDepth 20000 in
theorem gX7_smoothed_X7_goes : GoodIn wsX7_smoothed (wsV RX7 111 RX7 yX7_goes wsX7_goes) := goodIn_app (goodIn_of _ (by decide +kernel)) ggX7_smoothed_X7_goes
set_option maxRecDepth 20000 in
theorem ggX7_smoothed_X7_by : GoodIn wsX7_smoothed wsX7_by := goodIn_r _ [29, 30] rfl (by decide +kernel)
set_option maxRecDepth 20000 in
theorem gX7_smoothed_X7_by : GoodIn wsX7_smoothed (va_wsS RX7 79 yX7_by wsX7_by) := goodIn_app (goodIn_of _ (by decide +kernel)) ggX7_smoothed_X7_by
set_option maxRecDepth 20000 in
theorem ggX7_smoothed_X7_inverts : GoodIn wsX7_smoothed wsX7_inverts := goodIn_r _ [42, 27, 28, 9, 29, 30, 37, 38, 39] rfl (by decide +kernel)
set_option maxRecDepth 20000 in
theorem gX7_smoothed_X7_inverts : GoodIn wsX7_smoothed (va_wsS RX7 117 yX7_inverts wsX7_inverts) := goodIn_app (goodIn_of _ (by decide +kernel)) ggX7_smoothed_X7_inverts
set_option maxRecDepth 20000 in
theorem ggX7_smoothed_X7_times : GoodIn wsX7_smoothed wsX7_times := goodIn_r _ [45, 27, 28, 9, 29, 30] rfl (by decide +kernel)
set_option maxRecDepth 20000 in
theorem gX7_smoothed_X7_times : GoodIn wsX7_smoothed (va_wsS RX7 121 yX7_times wsX7_times) := goodIn_app (goodIn_of _ (by decide +kernel)) ggX7_smoothed_X7_times
set_option maxRecDepth 20000 in
theorem ggX7_smoothed_X7_fails : GoodIn wsX7_smoothed wsX7_fails := goodIn_r _ [49, 50, 51, 52, 53, 54, 55, 56, 57, 58, 59, 60, 61, 62, 63, 64, 65, 66, 67, 68, 69, 70] rfl (by decide +kernel)
set_option maxRecDepth 20000 in
theorem gX7_smoothed_X7_fails : GoodIn wsX7_smoothed (wsV RX7 83 RX7 yX7_fails wsX7_fails) := goodIn_app (goodIn_of _ (by decide +kernel)) ggX7_smoothed_X7_fails
theorem dX7_smoothed_0 : decode cX7_smoothed 0 = .ok (.aload_n 0, 1) := by decide +kernel
theorem dX7_smoothed_1 : decode cX7_smoothed 1 = .ok (.iload_n 1, 1) := by decide +kernel
theorem dX7_smoothed_2 : decode cX7_smoothed 2 = .ok (.invokevirtual 93, 3) := by decide +kernel
theorem dX7_smoothed_5 : decode cX7_smoothed 5 = .ok (.ifCond .eq 30, 3) := by decide +kernel
theorem dX7_smoothed_8 : decode cX7_smoothed 8 = .ok (.iload_n 2, 1) := by decide +kernel
theorem dX7_smoothed_9 : decode cX7_smoothed 9 = .ok (.iconst 0, 1) := by decide +kernel
theorem dX7_smoothed_10 : decode cX7_smoothed 10 = .ok (.aload_n 0, 1) := by decide +kernel
theorem dX7_smoothed_11 : decode cX7_smoothed 11 = .ok (.getfield 19, 3) := by decide +kernel
theorem dX7_smoothed_14 : decode cX7_smoothed 14 = .ok (.iload_n 1, 1) := by decide +kernel
theorem dX7_smoothed_15 : decode cX7_smoothed 15 = .ok (.iaload, 1) := by decide +kernel
theorem dX7_smoothed_16 : decode cX7_smoothed 16 = .ok (.invokestatic 67, 3) := by decide +kernel
theorem dX7_smoothed_19 : decode cX7_smoothed 19 = .ok (.ifCond .eq 16, 3) := by decide +kernel
theorem dX7_smoothed_22 : decode cX7_smoothed 22 = .ok (.iload_n 3, 1) := by decide +kernel
theorem dX7_smoothed_23 : decode cX7_smoothed 23 = .ok (.iconst 0, 1) := by decide +kernel
theorem dX7_smoothed_24 : decode cX7_smoothed 24 = .ok (.iconst 1, 1) := by decide +kernel
theorem dX7_smoothed_25 : decode cX7_smoothed 25 = .ok (.invokestatic 67, 3) := by decide +kernel
theorem dX7_smoothed_28 : decode cX7_smoothed 28 = .ok (.ifCond .eq 7, 3) := by decide +kernel
theorem dX7_smoothed_31 : decode cX7_smoothed 31 = .ok (.iconst 1, 1) := by decide +kernel
theorem dX7_smoothed_32 : decode cX7_smoothed 32 = .ok (.goto 4, 3) := by decide +kernel
theorem dX7_smoothed_35 : decode cX7_smoothed 35 = .ok (.iconst 0, 1) := by decide +kernel
theorem dX7_smoothed_36 : decode cX7_smoothed 36 = .ok (.istore 4, 2) := by decide +kernel
theorem dX7_smoothed_38 : decode cX7_smoothed 38 = .ok (.iload 4, 2) := by decide +kernel
theorem dX7_smoothed_40 : decode cX7_smoothed 40 = .ok (.ifCond .eq 15, 3) := by decide +kernel
theorem dX7_smoothed_43 : decode cX7_smoothed 43 = .ok (.aload_n 0, 1) := by decide +kernel
theorem dX7_smoothed_44 : decode cX7_smoothed 44 = .ok (.iload_n 1, 1) := by decide +kernel
theorem dX7_smoothed_45 : decode cX7_smoothed 45 = .ok (.invokevirtual 111, 3) := by decide +kernel
theorem dX7_smoothed_48 : decode cX7_smoothed 48 = .ok (.ifCond .eq 7, 3) := by decide +kernel
theorem dX7_smoothed_51 : decode cX7_smoothed 51 = .ok (.iconst 1, 1) := by decide +kernel
theorem dX7_smoothed_52 : decode cX7_smoothed 52 = .ok (.goto 4, 3) := by decide +kernel
theorem dX7_smoothed_55 : decode cX7_smoothed 55 = .ok (.iconst 0, 1) := by decide +kernel
theorem dX7_smoothed_56 : decode cX7_smoothed 56 = .ok (.istore 5, 2) := by decide +kernel
theorem dX7_smoothed_58 : decode cX7_smoothed 58 = .ok (.aload_n 0, 1) := by decide +kernel
theorem dX7_smoothed_59 : decode cX7_smoothed 59 = .ok (.getfield 48, 3) := by decide +kernel
theorem dX7_smoothed_62 : decode cX7_smoothed 62 = .ok (.iconst 0, 1) := by decide +kernel
theorem dX7_smoothed_63 : decode cX7_smoothed 63 = .ok (.laload, 1) := by decide +kernel
theorem dX7_smoothed_64 : decode cX7_smoothed 64 = .ok (.lstore 6, 2) := by decide +kernel
theorem dX7_smoothed_66 : decode cX7_smoothed 66 = .ok (.aload_n 0, 1) := by decide +kernel
theorem dX7_smoothed_67 : decode cX7_smoothed 67 = .ok (.getfield 48, 3) := by decide +kernel
theorem dX7_smoothed_70 : decode cX7_smoothed 70 = .ok (.iconst 1, 1) := by decide +kernel
theorem dX7_smoothed_71 : decode cX7_smoothed 71 = .ok (.laload, 1) := by decide +kernel
theorem dX7_smoothed_72 : decode cX7_smoothed 72 = .ok (.lstore 8, 2) := by decide +kernel
theorem dX7_smoothed_74 : decode cX7_smoothed 74 = .ok (.aload_n 0, 1) := by decide +kernel
theorem dX7_smoothed_75 : decode cX7_smoothed 75 = .ok (.iload_n 1, 1) := by decide +kernel
theorem dX7_smoothed_76 : decode cX7_smoothed 76 = .ok (.invokevirtual 93, 3) := by decide +kernel
theorem dX7_smoothed_79 : decode cX7_smoothed 79 = .ok (.ifCond .eq 14, 3) := by decide +kernel
theorem dX7_smoothed_82 : decode cX7_smoothed 82 = .ok (.aload_n 0, 1) := by decide +kernel
theorem dX7_smoothed_83 : decode cX7_smoothed 83 = .ok (.getfield 19, 3) := by decide +kernel
theorem dX7_smoothed_86 : decode cX7_smoothed 86 = .ok (.iload_n 1, 1) := by decide +kernel
theorem dX7_smoothed_87 : decode cX7_smoothed 87 = .ok (.iaload, 1) := by decide +kernel
theorem dX7_smoothed_88 : decode cX7_smoothed 88 = .ok (.iconst 1, 1) := by decide +kernel
theorem dX7_smoothed_89 : decode cX7_smoothed 89 = .ok (.isub, 1) := by decide +kernel
theorem dX7_smoothed_90 : decode cX7_smoothed 90 = .ok (.goto 4, 3) := by decide +kernel
theorem dX7_smoothed_93 : decode cX7_smoothed 93 = .ok (.iconst 0, 1) := by decide +kernel
theorem dX7_smoothed_94 : decode cX7_smoothed 94 = .ok (.istore 10, 2) := by decide +kernel
theorem dX7_smoothed_96 : decode cX7_smoothed 96 = .ok (.iload 5, 2) := by decide +kernel
theorem dX7_smoothed_98 : decode cX7_smoothed 98 = .ok (.ifCond .eq 277, 3) := by decide +kernel
theorem dX7_smoothed_101 : decode cX7_smoothed 101 = .ok (.iload 10, 2) := by decide +kernel
theorem dX7_smoothed_103 : decode cX7_smoothed 103 = .ok (.iload_n 2, 1) := by decide +kernel
theorem dX7_smoothed_104 : decode cX7_smoothed 104 = .ok (.if_icmp .lt 271, 3) := by decide +kernel
theorem dX7_smoothed_107 : decode cX7_smoothed 107 = .ok (.iconst 0, 1) := by decide +kernel
theorem dX7_smoothed_108 : decode cX7_smoothed 108 = .ok (.istore 11, 2) := by decide +kernel
theorem dX7_smoothed_110 : decode cX7_smoothed 110 = .ok (.iload 11, 2) := by decide +kernel
theorem dX7_smoothed_112 : decode cX7_smoothed 112 = .ok (.iconst 5, 1) := by decide +kernel
theorem dX7_smoothed_113 : decode cX7_smoothed 113 = .ok (.if_icmp .ge 30, 3) := by decide +kernel
theorem dX7_smoothed_116 : decode cX7_smoothed 116 = .ok (.aload_n 0, 1) := by decide +kernel
theorem dX7_smoothed_117 : decode cX7_smoothed 117 = .ok (.getfield 48, 3) := by decide +kernel
theorem dX7_smoothed_120 : decode cX7_smoothed 120 = .ok (.iload 11, 2) := by decide +kernel
theorem dX7_smoothed_122 : decode cX7_smoothed 122 = .ok (.aload_n 0, 1) := by decide +kernel
theorem dX7_smoothed_123 : decode cX7_smoothed 123 = .ok (.getfield 35, 3) := by decide +kernel
theorem dX7_smoothed_126 : decode cX7_smoothed 126 = .ok (.iconst 5, 1) := by decide +kernel
theorem dX7_smoothed_127 : decode cX7_smoothed 127 = .ok (.iload 10, 2) := by decide +kernel
theorem dX7_smoothed_129 : decode cX7_smoothed 129 = .ok (.imul, 1) := by decide +kernel
theorem dX7_smoothed_130 : decode cX7_smoothed 130 = .ok (.iconst 5, 1) := by decide +kernel
theorem dX7_smoothed_131 : decode cX7_smoothed 131 = .ok (.iadd, 1) := by decide +kernel
theorem dX7_smoothed_132 : decode cX7_smoothed 132 = .ok (.iload 11, 2) := by decide +kernel
theorem dX7_smoothed_134 : decode cX7_smoothed 134 = .ok (.iadd, 1) := by decide +kernel
theorem dX7_smoothed_135 : decode cX7_smoothed 135 = .ok (.laload, 1) := by decide +kernel
theorem dX7_smoothed_136 : decode cX7_smoothed 136 = .ok (.lastore, 1) := by decide +kernel
theorem dX7_smoothed_137 : decode cX7_smoothed 137 = .ok (.iinc 11 1, 3) := by decide +kernel
theorem dX7_smoothed_140 : decode cX7_smoothed 140 = .ok (.goto (-30), 3) := by decide +kernel
theorem dX7_smoothed_143 : decode cX7_smoothed 143 = .ok (.aload_n 0, 1) := by decide +kernel
theorem dX7_smoothed_144 : decode cX7_smoothed 144 = .ok (.getfield 48, 3) := by decide +kernel
theorem dX7_smoothed_147 : decode cX7_smoothed 147 = .ok (.iconst 0, 1) := by decide +kernel
theorem dX7_smoothed_148 : decode cX7_smoothed 148 = .ok (.lload 6, 2) := by decide +kernel
theorem dX7_smoothed_150 : decode cX7_smoothed 150 = .ok (.aload_n 0, 1) := by decide +kernel
theorem dX7_smoothed_151 : decode cX7_smoothed 151 = .ok (.getfield 48, 3) := by decide +kernel
theorem dX7_smoothed_154 : decode cX7_smoothed 154 = .ok (.iconst 0, 1) := by decide +kernel
theorem dX7_smoothed_155 : decode cX7_smoothed 155 = .ok (.laload, 1) := by decide +kernel
theorem dX7_smoothed_156 : decode cX7_smoothed 156 = .ok (.lsub, 1) := by decide +kernel
theorem dX7_smoothed_157 : decode cX7_smoothed 157 = .ok (.invokestatic 79, 3) := by decide +kernel
theorem dX7_smoothed_160 : decode cX7_smoothed 160 = .ok (.lastore, 1) := by decide +kernel
theorem dX7_smoothed_161 : decode cX7_smoothed 161 = .ok (.aload_n 0, 1) := by decide +kernel
theorem dX7_smoothed_162 : decode cX7_smoothed 162 = .ok (.getfield 48, 3) := by decide +kernel
theorem dX7_smoothed_165 : decode cX7_smoothed 165 = .ok (.iconst 1, 1) := by decide +kernel
theorem dX7_smoothed_166 : decode cX7_smoothed 166 = .ok (.lload 8, 2) := by decide +kernel
theorem dX7_smoothed_168 : decode cX7_smoothed 168 = .ok (.aload_n 0, 1) := by decide +kernel
theorem dX7_smoothed_169 : decode cX7_smoothed 169 = .ok (.getfield 48, 3) := by decide +kernel
theorem dX7_smoothed_172 : decode cX7_smoothed 172 = .ok (.iconst 1, 1) := by decide +kernel
theorem dX7_smoothed_173 : decode cX7_smoothed 173 = .ok (.laload, 1) := by decide +kernel
theorem dX7_smoothed_174 : decode cX7_smoothed 174 = .ok (.lsub, 1) := by decide +kernel
theorem dX7_smoothed_175 : decode cX7_smoothed 175 = .ok (.invokestatic 79, 3) := by decide +kernel
theorem dX7_smoothed_178 : decode cX7_smoothed 178 = .ok (.lastore, 1) := by decide +kernel
theorem dX7_smoothed_179 : decode cX7_smoothed 179 = .ok (.aload_n 0, 1) := by decide +kernel
theorem dX7_smoothed_180 : decode cX7_smoothed 180 = .ok (.getfield 48, 3) := by decide +kernel
theorem dX7_smoothed_183 : decode cX7_smoothed 183 = .ok (.invokestatic 117, 3) := by decide +kernel
theorem dX7_smoothed_186 : decode cX7_smoothed 186 = .ok (.istore 5, 2) := by decide +kernel
theorem dX7_smoothed_188 : decode cX7_smoothed 188 = .ok (.aload_n 0, 1) := by decide +kernel
theorem dX7_smoothed_189 : decode cX7_smoothed 189 = .ok (.getfield 48, 3) := by decide +kernel
theorem dX7_smoothed_192 : decode cX7_smoothed 192 = .ok (.invokestatic 121, 3) := by decide +kernel
theorem dX7_smoothed_195 : decode cX7_smoothed 195 = .ok (.bipush 7, 2) := by decide +kernel
theorem dX7_smoothed_197 : decode cX7_smoothed 197 = .ok (.iload_n 1, 1) := by decide +kernel
theorem dX7_smoothed_198 : decode cX7_smoothed 198 = .ok (.imul, 1) := by decide +kernel
theorem dX7_smoothed_199 : decode cX7_smoothed 199 = .ok (.istore 11, 2) := by decide +kernel
theorem dX7_smoothed_201 : decode cX7_smoothed 201 = .ok (.aload_n 0, 1) := by decide +kernel
theorem dX7_smoothed_202 : decode cX7_smoothed 202 = .ok (.getfield 13, 3) := by decide +kernel
theorem dX7_smoothed_205 : decode cX7_smoothed 205 = .ok (.iload 11, 2) := by decide +kernel
theorem dX7_smoothed_207 : decode cX7_smoothed 207 = .ok (.iaload, 1) := by decide +kernel
theorem dX7_smoothed_208 : decode cX7_smoothed 208 = .ok (.i2l, 1) := by decide +kernel
theorem dX7_smoothed_209 : decode cX7_smoothed 209 = .ok (.aload_n 0, 1) := by decide +kernel
theorem dX7_smoothed_210 : decode cX7_smoothed 210 = .ok (.getfield 48, 3) := by decide +kernel
theorem dX7_smoothed_213 : decode cX7_smoothed 213 = .ok (.iconst 0, 1) := by decide +kernel
theorem dX7_smoothed_214 : decode cX7_smoothed 214 = .ok (.laload, 1) := by decide +kernel
theorem dX7_smoothed_215 : decode cX7_smoothed 215 = .ok (.lmul, 1) := by decide +kernel
theorem dX7_smoothed_216 : decode cX7_smoothed 216 = .ok (.aload_n 0, 1) := by decide +kernel
theorem dX7_smoothed_217 : decode cX7_smoothed 217 = .ok (.getfield 13, 3) := by decide +kernel
theorem dX7_smoothed_220 : decode cX7_smoothed 220 = .ok (.iload 11, 2) := by decide +kernel
theorem dX7_smoothed_222 : decode cX7_smoothed 222 = .ok (.iconst 2, 1) := by decide +kernel
theorem dX7_smoothed_223 : decode cX7_smoothed 223 = .ok (.iadd, 1) := by decide +kernel
theorem dX7_smoothed_224 : decode cX7_smoothed 224 = .ok (.iaload, 1) := by decide +kernel
theorem dX7_smoothed_225 : decode cX7_smoothed 225 = .ok (.i2l, 1) := by decide +kernel
theorem dX7_smoothed_226 : decode cX7_smoothed 226 = .ok (.aload_n 0, 1) := by decide +kernel
theorem dX7_smoothed_227 : decode cX7_smoothed 227 = .ok (.getfield 48, 3) := by decide +kernel
theorem dX7_smoothed_230 : decode cX7_smoothed 230 = .ok (.iconst 1, 1) := by decide +kernel
theorem dX7_smoothed_231 : decode cX7_smoothed 231 = .ok (.laload, 1) := by decide +kernel
theorem dX7_smoothed_232 : decode cX7_smoothed 232 = .ok (.lmul, 1) := by decide +kernel
theorem dX7_smoothed_233 : decode cX7_smoothed 233 = .ok (.ladd, 1) := by decide +kernel
theorem dX7_smoothed_234 : decode cX7_smoothed 234 = .ok (.invokestatic 79, 3) := by decide +kernel
theorem dX7_smoothed_237 : decode cX7_smoothed 237 = .ok (.lstore 12, 2) := by decide +kernel
theorem dX7_smoothed_239 : decode cX7_smoothed 239 = .ok (.aload_n 0, 1) := by decide +kernel
theorem dX7_smoothed_240 : decode cX7_smoothed 240 = .ok (.getfield 13, 3) := by decide +kernel
theorem dX7_smoothed_243 : decode cX7_smoothed 243 = .ok (.iload 11, 2) := by decide +kernel
theorem dX7_smoothed_245 : decode cX7_smoothed 245 = .ok (.iconst 1, 1) := by decide +kernel
theorem dX7_smoothed_246 : decode cX7_smoothed 246 = .ok (.iadd, 1) := by decide +kernel
theorem dX7_smoothed_247 : decode cX7_smoothed 247 = .ok (.iaload, 1) := by decide +kernel
theorem dX7_smoothed_248 : decode cX7_smoothed 248 = .ok (.i2l, 1) := by decide +kernel
theorem dX7_smoothed_249 : decode cX7_smoothed 249 = .ok (.aload_n 0, 1) := by decide +kernel
theorem dX7_smoothed_250 : decode cX7_smoothed 250 = .ok (.getfield 48, 3) := by decide +kernel
theorem dX7_smoothed_253 : decode cX7_smoothed 253 = .ok (.iconst 0, 1) := by decide +kernel
theorem dX7_smoothed_254 : decode cX7_smoothed 254 = .ok (.laload, 1) := by decide +kernel
theorem dX7_smoothed_255 : decode cX7_smoothed 255 = .ok (.lmul, 1) := by decide +kernel
theorem dX7_smoothed_256 : decode cX7_smoothed 256 = .ok (.aload_n 0, 1) := by decide +kernel
theorem dX7_smoothed_257 : decode cX7_smoothed 257 = .ok (.getfield 13, 3) := by decide +kernel
theorem dX7_smoothed_260 : decode cX7_smoothed 260 = .ok (.iload 11, 2) := by decide +kernel
theorem dX7_smoothed_262 : decode cX7_smoothed 262 = .ok (.iconst 3, 1) := by decide +kernel
theorem dX7_smoothed_263 : decode cX7_smoothed 263 = .ok (.iadd, 1) := by decide +kernel
theorem dX7_smoothed_264 : decode cX7_smoothed 264 = .ok (.iaload, 1) := by decide +kernel
theorem dX7_smoothed_265 : decode cX7_smoothed 265 = .ok (.i2l, 1) := by decide +kernel
theorem dX7_smoothed_266 : decode cX7_smoothed 266 = .ok (.aload_n 0, 1) := by decide +kernel
theorem dX7_smoothed_267 : decode cX7_smoothed 267 = .ok (.getfield 48, 3) := by decide +kernel
theorem dX7_smoothed_270 : decode cX7_smoothed 270 = .ok (.iconst 1, 1) := by decide +kernel
theorem dX7_smoothed_271 : decode cX7_smoothed 271 = .ok (.laload, 1) := by decide +kernel
theorem dX7_smoothed_272 : decode cX7_smoothed 272 = .ok (.lmul, 1) := by decide +kernel
theorem dX7_smoothed_273 : decode cX7_smoothed 273 = .ok (.ladd, 1) := by decide +kernel
theorem dX7_smoothed_274 : decode cX7_smoothed 274 = .ok (.invokestatic 79, 3) := by decide +kernel
theorem dX7_smoothed_277 : decode cX7_smoothed 277 = .ok (.lstore 14, 2) := by decide +kernel
theorem dX7_smoothed_279 : decode cX7_smoothed 279 = .ok (.aload_n 0, 1) := by decide +kernel
theorem dX7_smoothed_280 : decode cX7_smoothed 280 = .ok (.getfield 39, 3) := by decide +kernel
theorem dX7_smoothed_283 : decode cX7_smoothed 283 = .ok (.iconst 5, 1) := by decide +kernel
theorem dX7_smoothed_284 : decode cX7_smoothed 284 = .ok (.iload 10, 2) := by decide +kernel
theorem dX7_smoothed_286 : decode cX7_smoothed 286 = .ok (.imul, 1) := by decide +kernel
theorem dX7_smoothed_287 : decode cX7_smoothed 287 = .ok (.laload, 1) := by decide +kernel
theorem dX7_smoothed_288 : decode cX7_smoothed 288 = .ok (.aload_n 0, 1) := by decide +kernel
theorem dX7_smoothed_289 : decode cX7_smoothed 289 = .ok (.getfield 39, 3) := by decide +kernel
theorem dX7_smoothed_292 : decode cX7_smoothed 292 = .ok (.iconst 5, 1) := by decide +kernel
theorem dX7_smoothed_293 : decode cX7_smoothed 293 = .ok (.iload 10, 2) := by decide +kernel
theorem dX7_smoothed_295 : decode cX7_smoothed 295 = .ok (.imul, 1) := by decide +kernel
theorem dX7_smoothed_296 : decode cX7_smoothed 296 = .ok (.iconst 2, 1) := by decide +kernel
theorem dX7_smoothed_297 : decode cX7_smoothed 297 = .ok (.iadd, 1) := by decide +kernel
theorem dX7_smoothed_298 : decode cX7_smoothed 298 = .ok (.laload, 1) := by decide +kernel
theorem dX7_smoothed_299 : decode cX7_smoothed 299 = .ok (.lload 12, 2) := by decide +kernel
theorem dX7_smoothed_301 : decode cX7_smoothed 301 = .ok (.lmul, 1) := by decide +kernel
theorem dX7_smoothed_302 : decode cX7_smoothed 302 = .ok (.ladd, 1) := by decide +kernel
theorem dX7_smoothed_303 : decode cX7_smoothed 303 = .ok (.aload_n 0, 1) := by decide +kernel
theorem dX7_smoothed_304 : decode cX7_smoothed 304 = .ok (.getfield 39, 3) := by decide +kernel
theorem dX7_smoothed_307 : decode cX7_smoothed 307 = .ok (.iconst 5, 1) := by decide +kernel
theorem dX7_smoothed_308 : decode cX7_smoothed 308 = .ok (.iload 10, 2) := by decide +kernel
theorem dX7_smoothed_310 : decode cX7_smoothed 310 = .ok (.imul, 1) := by decide +kernel
theorem dX7_smoothed_311 : decode cX7_smoothed 311 = .ok (.iconst 3, 1) := by decide +kernel
theorem dX7_smoothed_312 : decode cX7_smoothed 312 = .ok (.iadd, 1) := by decide +kernel
theorem dX7_smoothed_313 : decode cX7_smoothed 313 = .ok (.laload, 1) := by decide +kernel
theorem dX7_smoothed_314 : decode cX7_smoothed 314 = .ok (.lload 14, 2) := by decide +kernel
theorem dX7_smoothed_316 : decode cX7_smoothed 316 = .ok (.lmul, 1) := by decide +kernel
theorem dX7_smoothed_317 : decode cX7_smoothed 317 = .ok (.ladd, 1) := by decide +kernel
theorem dX7_smoothed_318 : decode cX7_smoothed 318 = .ok (.invokestatic 79, 3) := by decide +kernel
theorem dX7_smoothed_321 : decode cX7_smoothed 321 = .ok (.lstore 6, 2) := by decide +kernel
theorem dX7_smoothed_323 : decode cX7_smoothed 323 = .ok (.aload_n 0, 1) := by decide +kernel
theorem dX7_smoothed_324 : decode cX7_smoothed 324 = .ok (.getfield 39, 3) := by decide +kernel
theorem dX7_smoothed_327 : decode cX7_smoothed 327 = .ok (.iconst 5, 1) := by decide +kernel
theorem dX7_smoothed_328 : decode cX7_smoothed 328 = .ok (.iload 10, 2) := by decide +kernel
theorem dX7_smoothed_330 : decode cX7_smoothed 330 = .ok (.imul, 1) := by decide +kernel
theorem dX7_smoothed_331 : decode cX7_smoothed 331 = .ok (.iconst 1, 1) := by decide +kernel
theorem dX7_smoothed_332 : decode cX7_smoothed 332 = .ok (.iadd, 1) := by decide +kernel
theorem dX7_smoothed_333 : decode cX7_smoothed 333 = .ok (.laload, 1) := by decide +kernel
theorem dX7_smoothed_334 : decode cX7_smoothed 334 = .ok (.aload_n 0, 1) := by decide +kernel
theorem dX7_smoothed_335 : decode cX7_smoothed 335 = .ok (.getfield 39, 3) := by decide +kernel
theorem dX7_smoothed_338 : decode cX7_smoothed 338 = .ok (.iconst 5, 1) := by decide +kernel
theorem dX7_smoothed_339 : decode cX7_smoothed 339 = .ok (.iload 10, 2) := by decide +kernel
theorem dX7_smoothed_341 : decode cX7_smoothed 341 = .ok (.imul, 1) := by decide +kernel
theorem dX7_smoothed_342 : decode cX7_smoothed 342 = .ok (.iconst 3, 1) := by decide +kernel
theorem dX7_smoothed_343 : decode cX7_smoothed 343 = .ok (.iadd, 1) := by decide +kernel
theorem dX7_smoothed_344 : decode cX7_smoothed 344 = .ok (.laload, 1) := by decide +kernel
theorem dX7_smoothed_345 : decode cX7_smoothed 345 = .ok (.lload 12, 2) := by decide +kernel
theorem dX7_smoothed_347 : decode cX7_smoothed 347 = .ok (.lmul, 1) := by decide +kernel
theorem dX7_smoothed_348 : decode cX7_smoothed 348 = .ok (.ladd, 1) := by decide +kernel
theorem dX7_smoothed_349 : decode cX7_smoothed 349 = .ok (.aload_n 0, 1) := by decide +kernel
theorem dX7_smoothed_350 : decode cX7_smoothed 350 = .ok (.getfield 39, 3) := by decide +kernel
theorem dX7_smoothed_353 : decode cX7_smoothed 353 = .ok (.iconst 5, 1) := by decide +kernel
theorem dX7_smoothed_354 : decode cX7_smoothed 354 = .ok (.iload 10, 2) := by decide +kernel
theorem dX7_smoothed_356 : decode cX7_smoothed 356 = .ok (.imul, 1) := by decide +kernel
theorem dX7_smoothed_357 : decode cX7_smoothed 357 = .ok (.iconst 4, 1) := by decide +kernel
theorem dX7_smoothed_358 : decode cX7_smoothed 358 = .ok (.iadd, 1) := by decide +kernel
theorem dX7_smoothed_359 : decode cX7_smoothed 359 = .ok (.laload, 1) := by decide +kernel
theorem dX7_smoothed_360 : decode cX7_smoothed 360 = .ok (.lload 14, 2) := by decide +kernel
theorem dX7_smoothed_362 : decode cX7_smoothed 362 = .ok (.lmul, 1) := by decide +kernel
theorem dX7_smoothed_363 : decode cX7_smoothed 363 = .ok (.ladd, 1) := by decide +kernel
theorem dX7_smoothed_364 : decode cX7_smoothed 364 = .ok (.invokestatic 79, 3) := by decide +kernel
theorem dX7_smoothed_367 : decode cX7_smoothed 367 = .ok (.lstore 8, 2) := by decide +kernel
theorem dX7_smoothed_369 : decode cX7_smoothed 369 = .ok (.iinc 10 (-1), 3) := by decide +kernel
theorem dX7_smoothed_372 : decode cX7_smoothed 372 = .ok (.goto (-276), 3) := by decide +kernel
theorem dX7_smoothed_375 : decode cX7_smoothed 375 = .ok (.aload_n 0, 1) := by decide +kernel
theorem dX7_smoothed_376 : decode cX7_smoothed 376 = .ok (.aload_n 0, 1) := by decide +kernel
theorem dX7_smoothed_377 : decode cX7_smoothed 377 = .ok (.iload_n 1, 1) := by decide +kernel
theorem dX7_smoothed_378 : decode cX7_smoothed 378 = .ok (.invokevirtual 93, 3) := by decide +kernel
theorem dX7_smoothed_381 : decode cX7_smoothed 381 = .ok (.ifCond .ne 7, 3) := by decide +kernel
theorem dX7_smoothed_384 : decode cX7_smoothed 384 = .ok (.iconst 1, 1) := by decide +kernel
theorem dX7_smoothed_385 : decode cX7_smoothed 385 = .ok (.goto 22, 3) := by decide +kernel
theorem dX7_smoothed_388 : decode cX7_smoothed 388 = .ok (.iload 4, 2) := by decide +kernel
theorem dX7_smoothed_390 : decode cX7_smoothed 390 = .ok (.ifCond .ne 7, 3) := by decide +kernel
theorem dX7_smoothed_393 : decode cX7_smoothed 393 = .ok (.iconst 2, 1) := by decide +kernel
theorem dX7_smoothed_394 : decode cX7_smoothed 394 = .ok (.goto 13, 3) := by decide +kernel
theorem dX7_smoothed_397 : decode cX7_smoothed 397 = .ok (.iload 5, 2) := by decide +kernel
theorem dX7_smoothed_399 : decode cX7_smoothed 399 = .ok (.ifCond .eq 7, 3) := by decide +kernel
theorem dX7_smoothed_402 : decode cX7_smoothed 402 = .ok (.iconst 0, 1) := by decide +kernel
theorem dX7_smoothed_403 : decode cX7_smoothed 403 = .ok (.goto 4, 3) := by decide +kernel
theorem dX7_smoothed_406 : decode cX7_smoothed 406 = .ok (.iconst 3, 1) := by decide +kernel
theorem dX7_smoothed_407 : decode cX7_smoothed 407 = .ok (.invokevirtual 83, 3) := by decide +kernel
theorem dX7_smoothed_410 : decode cX7_smoothed 410 = .ok (.ifCond .eq 7, 3) := by decide +kernel
theorem dX7_smoothed_413 : decode cX7_smoothed 413 = .ok (.iconst 0, 1) := by decide +kernel
theorem dX7_smoothed_414 : decode cX7_smoothed 414 = .ok (.goto 15, 3) := by decide +kernel
theorem dX7_smoothed_417 : decode cX7_smoothed 417 = .ok (.iload_n 3, 1) := by decide +kernel
theorem dX7_smoothed_418 : decode cX7_smoothed 418 = .ok (.ifCond .ne 8, 3) := by decide +kernel
theorem dX7_smoothed_421 : decode cX7_smoothed 421 = .ok (.lload 6, 2) := by decide +kernel
theorem dX7_smoothed_423 : decode cX7_smoothed 423 = .ok (.goto 5, 3) := by decide +kernel
theorem dX7_smoothed_426 : decode cX7_smoothed 426 = .ok (.lload 8, 2) := by decide +kernel
theorem dX7_smoothed_428 : decode cX7_smoothed 428 = .ok (.l2i, 1) := by decide +kernel
theorem dX7_smoothed_429 : decode cX7_smoothed 429 = .ok (.ireturn, 1) := by decide +kernel
set_option maxRecDepth 20000 in
theorem ggX7_product_X7_by : GoodIn wsX7_product wsX7_by := goodIn_r _ [5, 6] rfl (by decide +kernel)
set_option maxRecDepth 20000 in
theorem gX7_product_X7_by : GoodIn wsX7_product (va_wsS RX7 79 yX7_by wsX7_by) := goodIn_app (goodIn_of _ (by decide +kernel)) ggX7_product_X7_by
theorem dX7_product_0 : decode cX7_product 0 = .ok (.iconst 0, 1) := by decide +kernel
theorem dX7_product_1 : decode cX7_product 1 = .ok (.istore_n 3, 1) := by decide +kernel
theorem dX7_product_2 : decode cX7_product 2 = .ok (.iload_n 3, 1) := by decide +kernel
theorem dX7_product_3 : decode cX7_product 3 = .ok (.bipush 16, 2) := by decide +kernel
theorem dX7_product_5 : decode cX7_product 5 = .ok (.if_icmp .ge 64, 3) := by decide +kernel
theorem dX7_product_8 : decode cX7_product 8 = .ok (.lconst 0, 1) := by decide +kernel
theorem dX7_product_9 : decode cX7_product 9 = .ok (.lstore 4, 2) := by decide +kernel
theorem dX7_product_11 : decode cX7_product 11 = .ok (.iconst 0, 1) := by decide +kernel
theorem dX7_product_12 : decode cX7_product 12 = .ok (.istore 6, 2) := by decide +kernel
theorem dX7_product_14 : decode cX7_product 14 = .ok (.iload 6, 2) := by decide +kernel
theorem dX7_product_16 : decode cX7_product 16 = .ok (.iconst 4, 1) := by decide +kernel
theorem dX7_product_17 : decode cX7_product 17 = .ok (.if_icmp .ge 35, 3) := by decide +kernel
theorem dX7_product_20 : decode cX7_product 20 = .ok (.lload 4, 2) := by decide +kernel
theorem dX7_product_22 : decode cX7_product 22 = .ok (.aload_n 1, 1) := by decide +kernel
theorem dX7_product_23 : decode cX7_product 23 = .ok (.iconst 4, 1) := by decide +kernel
theorem dX7_product_24 : decode cX7_product 24 = .ok (.iload_n 3, 1) := by decide +kernel
theorem dX7_product_25 : decode cX7_product 25 = .ok (.iconst 4, 1) := by decide +kernel
theorem dX7_product_26 : decode cX7_product 26 = .ok (.idiv, 1) := by decide +kernel
theorem dX7_product_27 : decode cX7_product 27 = .ok (.imul, 1) := by decide +kernel
theorem dX7_product_28 : decode cX7_product 28 = .ok (.iload 6, 2) := by decide +kernel
theorem dX7_product_30 : decode cX7_product 30 = .ok (.iadd, 1) := by decide +kernel
theorem dX7_product_31 : decode cX7_product 31 = .ok (.laload, 1) := by decide +kernel
theorem dX7_product_32 : decode cX7_product 32 = .ok (.aload_n 2, 1) := by decide +kernel
theorem dX7_product_33 : decode cX7_product 33 = .ok (.iconst 4, 1) := by decide +kernel
theorem dX7_product_34 : decode cX7_product 34 = .ok (.iload 6, 2) := by decide +kernel
theorem dX7_product_36 : decode cX7_product 36 = .ok (.imul, 1) := by decide +kernel
theorem dX7_product_37 : decode cX7_product 37 = .ok (.iload_n 3, 1) := by decide +kernel
theorem dX7_product_38 : decode cX7_product 38 = .ok (.iconst 4, 1) := by decide +kernel
theorem dX7_product_39 : decode cX7_product 39 = .ok (.irem, 1) := by decide +kernel
theorem dX7_product_40 : decode cX7_product 40 = .ok (.iadd, 1) := by decide +kernel
theorem dX7_product_41 : decode cX7_product 41 = .ok (.laload, 1) := by decide +kernel
theorem dX7_product_42 : decode cX7_product 42 = .ok (.lmul, 1) := by decide +kernel
theorem dX7_product_43 : decode cX7_product 43 = .ok (.ladd, 1) := by decide +kernel
theorem dX7_product_44 : decode cX7_product 44 = .ok (.lstore 4, 2) := by decide +kernel
theorem dX7_product_46 : decode cX7_product 46 = .ok (.iinc 6 1, 3) := by decide +kernel
theorem dX7_product_49 : decode cX7_product 49 = .ok (.goto (-35), 3) := by decide +kernel
theorem dX7_product_52 : decode cX7_product 52 = .ok (.aload_n 0, 1) := by decide +kernel
theorem dX7_product_53 : decode cX7_product 53 = .ok (.getfield 60, 3) := by decide +kernel
theorem dX7_product_56 : decode cX7_product 56 = .ok (.iload_n 3, 1) := by decide +kernel
theorem dX7_product_57 : decode cX7_product 57 = .ok (.lload 4, 2) := by decide +kernel
theorem dX7_product_59 : decode cX7_product 59 = .ok (.invokestatic 79, 3) := by decide +kernel
theorem dX7_product_62 : decode cX7_product 62 = .ok (.lastore, 1) := by decide +kernel
theorem dX7_product_63 : decode cX7_product 63 = .ok (.iinc 3 1, 3) := by decide +kernel
theorem dX7_product_66 : decode cX7_product 66 = .ok (.goto (-64), 3) := by decide +kernel
theorem dX7_product_69 : decode cX7_product 69 = .ok (.iconst 0, 1) := by decide +kernel
theorem dX7_product_70 : decode cX7_product 70 = .ok (.istore_n 3, 1) := by decide +kernel
theorem dX7_product_71 : decode cX7_product 71 = .ok (.iload_n 3, 1) := by decide +kernel
theorem dX7_product_72 : decode cX7_product 72 = .ok (.bipush 16, 2) := by decide +kernel
theorem dX7_product_74 : decode cX7_product 74 = .ok (.if_icmp .ge 18, 3) := by decide +kernel
theorem dX7_product_77 : decode cX7_product 77 = .ok (.aload_n 1, 1) := by decide +kernel
theorem dX7_product_78 : decode cX7_product 78 = .ok (.iload_n 3, 1) := by decide +kernel
theorem dX7_product_79 : decode cX7_product 79 = .ok (.aload_n 0, 1) := by decide +kernel
theorem dX7_product_80 : decode cX7_product 80 = .ok (.getfield 60, 3) := by decide +kernel
theorem dX7_product_83 : decode cX7_product 83 = .ok (.iload_n 3, 1) := by decide +kernel
theorem dX7_product_84 : decode cX7_product 84 = .ok (.laload, 1) := by decide +kernel
theorem dX7_product_85 : decode cX7_product 85 = .ok (.lastore, 1) := by decide +kernel
theorem dX7_product_86 : decode cX7_product 86 = .ok (.iinc 3 1, 3) := by decide +kernel
theorem dX7_product_89 : decode cX7_product 89 = .ok (.goto (-18), 3) := by decide +kernel
theorem dX7_product_92 : decode cX7_product 92 = .ok (.return_, 1) := by decide +kernel
set_option maxRecDepth 20000 in
theorem ggX7_raises_X7_product : GoodIn wsX7_raises wsX7_product := goodIn_r _ [7, 8, 9, 10, 6, 11, 12, 13, 14, 15, 16, 17, 18, 19, 20, 21, 22, 23, 24, 25, 26, 27, 28, 29, 30, 31, 32] rfl (by decide +kernel)
set_option maxRecDepth 20000 in
theorem gX7_raises_X7_product : GoodIn wsX7_raises (wsV RX7 128 RX7 yX7_product wsX7_product) := goodIn_app (goodIn_of _ (by decide +kernel)) ggX7_raises_X7_product
theorem dX7_raises_0 : decode cX7_raises 0 = .ok (.iconst 0, 1) := by decide +kernel
theorem dX7_raises_1 : decode cX7_raises 1 = .ok (.istore_n 2, 1) := by decide +kernel
theorem dX7_raises_2 : decode cX7_raises 2 = .ok (.iload_n 2, 1) := by decide +kernel
theorem dX7_raises_3 : decode cX7_raises 3 = .ok (.bipush 16, 2) := by decide +kernel
theorem dX7_raises_5 : decode cX7_raises 5 = .ok (.if_icmp .ge 26, 3) := by decide +kernel
theorem dX7_raises_8 : decode cX7_raises 8 = .ok (.aload_n 0, 1) := by decide +kernel
theorem dX7_raises_9 : decode cX7_raises 9 = .ok (.getfield 57, 3) := by decide +kernel
theorem dX7_raises_12 : decode cX7_raises 12 = .ok (.iload_n 2, 1) := by decide +kernel
theorem dX7_raises_13 : decode cX7_raises 13 = .ok (.iload_n 2, 1) := by decide +kernel
theorem dX7_raises_14 : decode cX7_raises 14 = .ok (.iconst 5, 1) := by decide +kernel
theorem dX7_raises_15 : decode cX7_raises 15 = .ok (.irem, 1) := by decide +kernel
theorem dX7_raises_16 : decode cX7_raises 16 = .ok (.ifCond .ne 7, 3) := by decide +kernel
theorem dX7_raises_19 : decode cX7_raises 19 = .ok (.lconst 1, 1) := by decide +kernel
theorem dX7_raises_20 : decode cX7_raises 20 = .ok (.goto 4, 3) := by decide +kernel
theorem dX7_raises_23 : decode cX7_raises 23 = .ok (.lconst 0, 1) := by decide +kernel
theorem dX7_raises_24 : decode cX7_raises 24 = .ok (.lastore, 1) := by decide +kernel
theorem dX7_raises_25 : decode cX7_raises 25 = .ok (.iinc 2 1, 3) := by decide +kernel
theorem dX7_raises_28 : decode cX7_raises 28 = .ok (.goto (-26), 3) := by decide +kernel
theorem dX7_raises_31 : decode cX7_raises 31 = .ok (.iload_n 1, 1) := by decide +kernel
theorem dX7_raises_32 : decode cX7_raises 32 = .ok (.istore_n 2, 1) := by decide +kernel
theorem dX7_raises_33 : decode cX7_raises 33 = .ok (.iload_n 2, 1) := by decide +kernel
theorem dX7_raises_34 : decode cX7_raises 34 = .ok (.ifCond .le 41, 3) := by decide +kernel
theorem dX7_raises_37 : decode cX7_raises 37 = .ok (.iload_n 2, 1) := by decide +kernel
theorem dX7_raises_38 : decode cX7_raises 38 = .ok (.iconst 2, 1) := by decide +kernel
theorem dX7_raises_39 : decode cX7_raises 39 = .ok (.irem, 1) := by decide +kernel
theorem dX7_raises_40 : decode cX7_raises 40 = .ok (.iconst 1, 1) := by decide +kernel
theorem dX7_raises_41 : decode cX7_raises 41 = .ok (.if_icmp .ne 15, 3) := by decide +kernel
theorem dX7_raises_44 : decode cX7_raises 44 = .ok (.aload_n 0, 1) := by decide +kernel
theorem dX7_raises_45 : decode cX7_raises 45 = .ok (.aload_n 0, 1) := by decide +kernel
theorem dX7_raises_46 : decode cX7_raises 46 = .ok (.getfield 57, 3) := by decide +kernel
theorem dX7_raises_49 : decode cX7_raises 49 = .ok (.aload_n 0, 1) := by decide +kernel
theorem dX7_raises_50 : decode cX7_raises 50 = .ok (.getfield 54, 3) := by decide +kernel
theorem dX7_raises_53 : decode cX7_raises 53 = .ok (.invokevirtual 128, 3) := by decide +kernel
theorem dX7_raises_56 : decode cX7_raises 56 = .ok (.aload_n 0, 1) := by decide +kernel
theorem dX7_raises_57 : decode cX7_raises 57 = .ok (.aload_n 0, 1) := by decide +kernel
theorem dX7_raises_58 : decode cX7_raises 58 = .ok (.getfield 54, 3) := by decide +kernel
theorem dX7_raises_61 : decode cX7_raises 61 = .ok (.aload_n 0, 1) := by decide +kernel
theorem dX7_raises_62 : decode cX7_raises 62 = .ok (.getfield 54, 3) := by decide +kernel
theorem dX7_raises_65 : decode cX7_raises 65 = .ok (.invokevirtual 128, 3) := by decide +kernel
theorem dX7_raises_68 : decode cX7_raises 68 = .ok (.iload_n 2, 1) := by decide +kernel
theorem dX7_raises_69 : decode cX7_raises 69 = .ok (.iconst 2, 1) := by decide +kernel
theorem dX7_raises_70 : decode cX7_raises 70 = .ok (.idiv, 1) := by decide +kernel
theorem dX7_raises_71 : decode cX7_raises 71 = .ok (.istore_n 2, 1) := by decide +kernel
theorem dX7_raises_72 : decode cX7_raises 72 = .ok (.goto (-39), 3) := by decide +kernel
theorem dX7_raises_75 : decode cX7_raises 75 = .ok (.return_, 1) := by decide +kernel
