set_option maxRecDepth 20000 in
theorem ggX7_late_X7_isOne : GoodIn wsX7_late wsX7_isOne := goodIn_r _ [9, 10, 11, 12, 8, 13, 49, 50, 51, 52, 53, 54, 55, 56, 57, 58, 59, 60, 61, 62, 63, 64, 65, 66, 67, 68] rfl (by decide +kernel)
set_option maxRecDepth 20000 in
theorem gX7_late_X7_isOne : GoodIn wsX7_late (wsV RX7 93 RX7 yX7_isOne wsX7_isOne) := goodIn_app (goodIn_of _ (by decide +kernel)) ggX7_late_X7_isOne
set_option maxRecDepth 20000 in
theorem ggX7_late_X7_isIn : GoodIn wsX7_late wsX7_isIn := goodIn_r _ [13] rfl (by decide +kernel)
set_option maxRecDepth 20000 in
theorem gX7_late_X7_isIn : GoodIn wsX7_late (va_wsS RX7 67 yX7_isIn wsX7_isIn) := goodIn_app (goodIn_of _ (by decide +kernel)) ggX7_late_X7_isIn
set_option maxRecDepth 20000 in
theorem ggX7_late_X7_isField : GoodIn wsX7_late wsX7_isField := goodIn_r _ [16, 11, 12, 8, 13] rfl (by decide +kernel)
set_option maxRecDepth 20000 in
theorem gX7_late_X7_isField : GoodIn wsX7_late (va_wsS RX7 87 yX7_isField wsX7_isField) := goodIn_app (goodIn_of _ (by decide +kernel)) ggX7_late_X7_isField
set_option maxRecDepth 20000 in
theorem ggX7_late_X7_goes : GoodIn wsX7_late wsX7_goes := goodIn_r _ [20, 21, 22, 1, 23, 2, 3, 24, 25, 26, 27, 28, 8, 29, 30, 31, 32, 33, 34, 35, 36, 37, 38, 39, 40, 41, 42, 43, 49, 50, 51, 52, 53, 54, 55, 56, 57, 58, 59, 60, 61, 62, 63, 64, 65, 66, 67, 68] rfl (by decide +kernel)
set_option maxRecDepth 20000 in
theorem gX7_late_X7_goes : GoodIn wsX7_late (wsV RX7 111 RX7 yX7_goes wsX7_goes) := goodIn_app (goodIn_of _ (by decide +kernel)) ggX7_late_X7_goes
set_option maxRecDepth 20000 in
theorem ggX7_late_X7_fails : GoodIn wsX7_late wsX7_fails := goodIn_r _ [47, 48, 49, 50, 51, 52, 53, 54, 55, 56, 57, 58, 59, 60, 61, 62, 63, 64, 65, 66, 67, 68] rfl (by decide +kernel)
set_option maxRecDepth 20000 in
theorem gX7_late_X7_fails : GoodIn wsX7_late (wsV RX7 83 RX7 yX7_fails wsX7_fails) := goodIn_app (goodIn_of _ (by decide +kernel)) ggX7_late_X7_fails
theorem dX7_late_0 : decode cX7_late 0 = .ok (.aload_n 0, 1) := by decide +kernel
theorem dX7_late_1 : decode cX7_late 1 = .ok (.iload_n 1, 1) := by decide +kernel
theorem dX7_late_2 : decode cX7_late 2 = .ok (.invokevirtual 93, 3) := by decide +kernel
theorem dX7_late_5 : decode cX7_late 5 = .ok (.ifCond .eq 52, 3) := by decide +kernel
theorem dX7_late_8 : decode cX7_late 8 = .ok (.iload_n 2, 1) := by decide +kernel
theorem dX7_late_9 : decode cX7_late 9 = .ok (.iconst 0, 1) := by decide +kernel
theorem dX7_late_10 : decode cX7_late 10 = .ok (.aload_n 0, 1) := by decide +kernel
theorem dX7_late_11 : decode cX7_late 11 = .ok (.getfield 19, 3) := by decide +kernel
theorem dX7_late_14 : decode cX7_late 14 = .ok (.iload_n 1, 1) := by decide +kernel
theorem dX7_late_15 : decode cX7_late 15 = .ok (.iaload, 1) := by decide +kernel
theorem dX7_late_16 : decode cX7_late 16 = .ok (.invokestatic 67, 3) := by decide +kernel
theorem dX7_late_19 : decode cX7_late 19 = .ok (.ifCond .eq 38, 3) := by decide +kernel
theorem dX7_late_22 : decode cX7_late 22 = .ok (.iload_n 3, 1) := by decide +kernel
theorem dX7_late_23 : decode cX7_late 23 = .ok (.invokestatic 87, 3) := by decide +kernel
theorem dX7_late_26 : decode cX7_late 26 = .ok (.ifCond .eq 31, 3) := by decide +kernel
theorem dX7_late_29 : decode cX7_late 29 = .ok (.iload 4, 2) := by decide +kernel
theorem dX7_late_31 : decode cX7_late 31 = .ok (.invokestatic 87, 3) := by decide +kernel
theorem dX7_late_34 : decode cX7_late 34 = .ok (.ifCond .eq 23, 3) := by decide +kernel
theorem dX7_late_37 : decode cX7_late 37 = .ok (.iload 5, 2) := by decide +kernel
theorem dX7_late_39 : decode cX7_late 39 = .ok (.invokestatic 87, 3) := by decide +kernel
theorem dX7_late_42 : decode cX7_late 42 = .ok (.ifCond .eq 15, 3) := by decide +kernel
theorem dX7_late_45 : decode cX7_late 45 = .ok (.iload 6, 2) := by decide +kernel
theorem dX7_late_47 : decode cX7_late 47 = .ok (.invokestatic 87, 3) := by decide +kernel
theorem dX7_late_50 : decode cX7_late 50 = .ok (.ifCond .eq 7, 3) := by decide +kernel
theorem dX7_late_53 : decode cX7_late 53 = .ok (.iconst 1, 1) := by decide +kernel
theorem dX7_late_54 : decode cX7_late 54 = .ok (.goto 4, 3) := by decide +kernel
theorem dX7_late_57 : decode cX7_late 57 = .ok (.iconst 0, 1) := by decide +kernel
theorem dX7_late_58 : decode cX7_late 58 = .ok (.istore 7, 2) := by decide +kernel
theorem dX7_late_60 : decode cX7_late 60 = .ok (.iload 7, 2) := by decide +kernel
theorem dX7_late_62 : decode cX7_late 62 = .ok (.ifCond .eq 18, 3) := by decide +kernel
theorem dX7_late_65 : decode cX7_late 65 = .ok (.aload_n 0, 1) := by decide +kernel
theorem dX7_late_66 : decode cX7_late 66 = .ok (.getfield 25, 3) := by decide +kernel
theorem dX7_late_69 : decode cX7_late 69 = .ok (.iload_n 1, 1) := by decide +kernel
theorem dX7_late_70 : decode cX7_late 70 = .ok (.iaload, 1) := by decide +kernel
theorem dX7_late_71 : decode cX7_late 71 = .ok (.bipush 30, 2) := by decide +kernel
theorem dX7_late_73 : decode cX7_late 73 = .ok (.if_icmp .ge 7, 3) := by decide +kernel
theorem dX7_late_76 : decode cX7_late 76 = .ok (.iconst 1, 1) := by decide +kernel
theorem dX7_late_77 : decode cX7_late 77 = .ok (.goto 4, 3) := by decide +kernel
theorem dX7_late_80 : decode cX7_late 80 = .ok (.iconst 0, 1) := by decide +kernel
theorem dX7_late_81 : decode cX7_late 81 = .ok (.istore 8, 2) := by decide +kernel
theorem dX7_late_83 : decode cX7_late 83 = .ok (.iload 8, 2) := by decide +kernel
theorem dX7_late_85 : decode cX7_late 85 = .ok (.ifCond .eq 121, 3) := by decide +kernel
theorem dX7_late_88 : decode cX7_late 88 = .ok (.bipush 6, 2) := by decide +kernel
theorem dX7_late_90 : decode cX7_late 90 = .ok (.bipush 30, 2) := by decide +kernel
theorem dX7_late_92 : decode cX7_late 92 = .ok (.iload_n 1, 1) := by decide +kernel
theorem dX7_late_93 : decode cX7_late 93 = .ok (.imul, 1) := by decide +kernel
theorem dX7_late_94 : decode cX7_late 94 = .ok (.aload_n 0, 1) := by decide +kernel
theorem dX7_late_95 : decode cX7_late 95 = .ok (.getfield 25, 3) := by decide +kernel
theorem dX7_late_98 : decode cX7_late 98 = .ok (.iload_n 1, 1) := by decide +kernel
theorem dX7_late_99 : decode cX7_late 99 = .ok (.iaload, 1) := by decide +kernel
theorem dX7_late_100 : decode cX7_late 100 = .ok (.iadd, 1) := by decide +kernel
theorem dX7_late_101 : decode cX7_late 101 = .ok (.imul, 1) := by decide +kernel
theorem dX7_late_102 : decode cX7_late 102 = .ok (.istore 9, 2) := by decide +kernel
theorem dX7_late_104 : decode cX7_late 104 = .ok (.aload_n 0, 1) := by decide +kernel
theorem dX7_late_105 : decode cX7_late 105 = .ok (.getfield 28, 3) := by decide +kernel
theorem dX7_late_108 : decode cX7_late 108 = .ok (.iload 9, 2) := by decide +kernel
theorem dX7_late_110 : decode cX7_late 110 = .ok (.iload_n 2, 1) := by decide +kernel
theorem dX7_late_111 : decode cX7_late 111 = .ok (.iastore, 1) := by decide +kernel
theorem dX7_late_112 : decode cX7_late 112 = .ok (.aload_n 0, 1) := by decide +kernel
theorem dX7_late_113 : decode cX7_late 113 = .ok (.getfield 28, 3) := by decide +kernel
theorem dX7_late_116 : decode cX7_late 116 = .ok (.iload 9, 2) := by decide +kernel
theorem dX7_late_118 : decode cX7_late 118 = .ok (.iconst 1, 1) := by decide +kernel
theorem dX7_late_119 : decode cX7_late 119 = .ok (.iadd, 1) := by decide +kernel
theorem dX7_late_120 : decode cX7_late 120 = .ok (.iload_n 3, 1) := by decide +kernel
theorem dX7_late_121 : decode cX7_late 121 = .ok (.iastore, 1) := by decide +kernel
theorem dX7_late_122 : decode cX7_late 122 = .ok (.aload_n 0, 1) := by decide +kernel
theorem dX7_late_123 : decode cX7_late 123 = .ok (.getfield 28, 3) := by decide +kernel
theorem dX7_late_126 : decode cX7_late 126 = .ok (.iload 9, 2) := by decide +kernel
theorem dX7_late_128 : decode cX7_late 128 = .ok (.iconst 2, 1) := by decide +kernel
theorem dX7_late_129 : decode cX7_late 129 = .ok (.iadd, 1) := by decide +kernel
theorem dX7_late_130 : decode cX7_late 130 = .ok (.iload 4, 2) := by decide +kernel
theorem dX7_late_132 : decode cX7_late 132 = .ok (.iastore, 1) := by decide +kernel
theorem dX7_late_133 : decode cX7_late 133 = .ok (.aload_n 0, 1) := by decide +kernel
theorem dX7_late_134 : decode cX7_late 134 = .ok (.getfield 28, 3) := by decide +kernel
theorem dX7_late_137 : decode cX7_late 137 = .ok (.iload 9, 2) := by decide +kernel
theorem dX7_late_139 : decode cX7_late 139 = .ok (.iconst 3, 1) := by decide +kernel
theorem dX7_late_140 : decode cX7_late 140 = .ok (.iadd, 1) := by decide +kernel
theorem dX7_late_141 : decode cX7_late 141 = .ok (.iload 5, 2) := by decide +kernel
theorem dX7_late_143 : decode cX7_late 143 = .ok (.iastore, 1) := by decide +kernel
theorem dX7_late_144 : decode cX7_late 144 = .ok (.aload_n 0, 1) := by decide +kernel
theorem dX7_late_145 : decode cX7_late 145 = .ok (.getfield 28, 3) := by decide +kernel
theorem dX7_late_148 : decode cX7_late 148 = .ok (.iload 9, 2) := by decide +kernel
theorem dX7_late_150 : decode cX7_late 150 = .ok (.iconst 4, 1) := by decide +kernel
theorem dX7_late_151 : decode cX7_late 151 = .ok (.iadd, 1) := by decide +kernel
theorem dX7_late_152 : decode cX7_late 152 = .ok (.iload 6, 2) := by decide +kernel
theorem dX7_late_154 : decode cX7_late 154 = .ok (.iastore, 1) := by decide +kernel
theorem dX7_late_155 : decode cX7_late 155 = .ok (.aload_n 0, 1) := by decide +kernel
theorem dX7_late_156 : decode cX7_late 156 = .ok (.getfield 28, 3) := by decide +kernel
theorem dX7_late_159 : decode cX7_late 159 = .ok (.iload 9, 2) := by decide +kernel
theorem dX7_late_161 : decode cX7_late 161 = .ok (.iconst 5, 1) := by decide +kernel
theorem dX7_late_162 : decode cX7_late 162 = .ok (.iadd, 1) := by decide +kernel
theorem dX7_late_163 : decode cX7_late 163 = .ok (.aload_n 0, 1) := by decide +kernel
theorem dX7_late_164 : decode cX7_late 164 = .ok (.getfield 22, 3) := by decide +kernel
theorem dX7_late_167 : decode cX7_late 167 = .ok (.iload_n 1, 1) := by decide +kernel
theorem dX7_late_168 : decode cX7_late 168 = .ok (.iaload, 1) := by decide +kernel
theorem dX7_late_169 : decode cX7_late 169 = .ok (.iastore, 1) := by decide +kernel
theorem dX7_late_170 : decode cX7_late 170 = .ok (.aload_n 0, 1) := by decide +kernel
theorem dX7_late_171 : decode cX7_late 171 = .ok (.getfield 25, 3) := by decide +kernel
theorem dX7_late_174 : decode cX7_late 174 = .ok (.iload_n 1, 1) := by decide +kernel
theorem dX7_late_175 : decode cX7_late 175 = .ok (.dup2, 1) := by decide +kernel
theorem dX7_late_176 : decode cX7_late 176 = .ok (.iaload, 1) := by decide +kernel
theorem dX7_late_177 : decode cX7_late 177 = .ok (.iconst 1, 1) := by decide +kernel
theorem dX7_late_178 : decode cX7_late 178 = .ok (.iadd, 1) := by decide +kernel
theorem dX7_late_179 : decode cX7_late 179 = .ok (.iastore, 1) := by decide +kernel
theorem dX7_late_180 : decode cX7_late 180 = .ok (.aload_n 0, 1) := by decide +kernel
theorem dX7_late_181 : decode cX7_late 181 = .ok (.iload_n 1, 1) := by decide +kernel
theorem dX7_late_182 : decode cX7_late 182 = .ok (.invokevirtual 111, 3) := by decide +kernel
theorem dX7_late_185 : decode cX7_late 185 = .ok (.istore 8, 2) := by decide +kernel
theorem dX7_late_187 : decode cX7_late 187 = .ok (.aload_n 0, 1) := by decide +kernel
theorem dX7_late_188 : decode cX7_late 188 = .ok (.getfield 25, 3) := by decide +kernel
theorem dX7_late_191 : decode cX7_late 191 = .ok (.iload_n 1, 1) := by decide +kernel
theorem dX7_late_192 : decode cX7_late 192 = .ok (.dup2, 1) := by decide +kernel
theorem dX7_late_193 : decode cX7_late 193 = .ok (.iaload, 1) := by decide +kernel
theorem dX7_late_194 : decode cX7_late 194 = .ok (.iload 8, 2) := by decide +kernel
theorem dX7_late_196 : decode cX7_late 196 = .ok (.ifCond .eq 7, 3) := by decide +kernel
theorem dX7_late_199 : decode cX7_late 199 = .ok (.iconst 0, 1) := by decide +kernel
theorem dX7_late_200 : decode cX7_late 200 = .ok (.goto 4, 3) := by decide +kernel
theorem dX7_late_203 : decode cX7_late 203 = .ok (.iconst 1, 1) := by decide +kernel
theorem dX7_late_204 : decode cX7_late 204 = .ok (.isub, 1) := by decide +kernel
theorem dX7_late_205 : decode cX7_late 205 = .ok (.iastore, 1) := by decide +kernel
theorem dX7_late_206 : decode cX7_late 206 = .ok (.aload_n 0, 1) := by decide +kernel
theorem dX7_late_207 : decode cX7_late 207 = .ok (.aload_n 0, 1) := by decide +kernel
theorem dX7_late_208 : decode cX7_late 208 = .ok (.iload_n 1, 1) := by decide +kernel
theorem dX7_late_209 : decode cX7_late 209 = .ok (.invokevirtual 93, 3) := by decide +kernel
theorem dX7_late_212 : decode cX7_late 212 = .ok (.ifCond .ne 7, 3) := by decide +kernel
theorem dX7_late_215 : decode cX7_late 215 = .ok (.iconst 1, 1) := by decide +kernel
theorem dX7_late_216 : decode cX7_late 216 = .ok (.goto 22, 3) := by decide +kernel
theorem dX7_late_219 : decode cX7_late 219 = .ok (.iload 7, 2) := by decide +kernel
theorem dX7_late_221 : decode cX7_late 221 = .ok (.ifCond .ne 7, 3) := by decide +kernel
theorem dX7_late_224 : decode cX7_late 224 = .ok (.iconst 2, 1) := by decide +kernel
theorem dX7_late_225 : decode cX7_late 225 = .ok (.goto 13, 3) := by decide +kernel
theorem dX7_late_228 : decode cX7_late 228 = .ok (.iload 8, 2) := by decide +kernel
theorem dX7_late_230 : decode cX7_late 230 = .ok (.ifCond .eq 7, 3) := by decide +kernel
theorem dX7_late_233 : decode cX7_late 233 = .ok (.iconst 0, 1) := by decide +kernel
theorem dX7_late_234 : decode cX7_late 234 = .ok (.goto 4, 3) := by decide +kernel
theorem dX7_late_237 : decode cX7_late 237 = .ok (.iconst 3, 1) := by decide +kernel
theorem dX7_late_238 : decode cX7_late 238 = .ok (.invokevirtual 83, 3) := by decide +kernel
theorem dX7_late_241 : decode cX7_late 241 = .ok (.ifCond .eq 7, 3) := by decide +kernel
theorem dX7_late_244 : decode cX7_late 244 = .ok (.iconst 0, 1) := by decide +kernel
theorem dX7_late_245 : decode cX7_late 245 = .ok (.goto 11, 3) := by decide +kernel
theorem dX7_late_248 : decode cX7_late 248 = .ok (.aload_n 0, 1) := by decide +kernel
theorem dX7_late_249 : decode cX7_late 249 = .ok (.getfield 25, 3) := by decide +kernel
theorem dX7_late_252 : decode cX7_late 252 = .ok (.iload_n 1, 1) := by decide +kernel
theorem dX7_late_253 : decode cX7_late 253 = .ok (.iaload, 1) := by decide +kernel
theorem dX7_late_254 : decode cX7_late 254 = .ok (.iconst 1, 1) := by decide +kernel
theorem dX7_late_255 : decode cX7_late 255 = .ok (.isub, 1) := by decide +kernel
theorem dX7_late_256 : decode cX7_late 256 = .ok (.ireturn, 1) := by decide +kernel
set_option maxRecDepth 20000 in
theorem ggX7_isMeasured_X7_isOne : GoodIn wsX7_isMeasured wsX7_isOne := goodIn_r _ [6, 7, 8, 9, 5, 10, 11, 12, 13, 14, 15, 16, 17, 18, 19, 20, 21, 22, 23, 24, 25, 26, 27, 28, 29, 30] rfl (by decide +kernel)
set_option maxRecDepth 20000 in
theorem gX7_isMeasured_X7_isOne : GoodIn wsX7_isMeasured (wsV RX7 93 RX7 yX7_isOne wsX7_isOne) := goodIn_app (goodIn_of _ (by decide +kernel)) ggX7_isMeasured_X7_isOne
set_option maxRecDepth 20000 in
theorem ggX7_isMeasured_X7_isIn : GoodIn wsX7_isMeasured wsX7_isIn := goodIn_r _ [10] rfl (by decide +kernel)
set_option maxRecDepth 20000 in
theorem gX7_isMeasured_X7_isIn : GoodIn wsX7_isMeasured (va_wsS RX7 67 yX7_isIn wsX7_isIn) := goodIn_app (goodIn_of _ (by decide +kernel)) ggX7_isMeasured_X7_isIn
theorem dX7_isMeasured_0 : decode cX7_isMeasured 0 = .ok (.aload_n 0, 1) := by decide +kernel
theorem dX7_isMeasured_1 : decode cX7_isMeasured 1 = .ok (.iload_n 1, 1) := by decide +kernel
theorem dX7_isMeasured_2 : decode cX7_isMeasured 2 = .ok (.invokevirtual 93, 3) := by decide +kernel
theorem dX7_isMeasured_5 : decode cX7_isMeasured 5 = .ok (.ifCond .eq 23, 3) := by decide +kernel
theorem dX7_isMeasured_8 : decode cX7_isMeasured 8 = .ok (.iload_n 2, 1) := by decide +kernel
theorem dX7_isMeasured_9 : decode cX7_isMeasured 9 = .ok (.iconst 0, 1) := by decide +kernel
theorem dX7_isMeasured_10 : decode cX7_isMeasured 10 = .ok (.aload_n 0, 1) := by decide +kernel
theorem dX7_isMeasured_11 : decode cX7_isMeasured 11 = .ok (.getfield 25, 3) := by decide +kernel
theorem dX7_isMeasured_14 : decode cX7_isMeasured 14 = .ok (.iload_n 1, 1) := by decide +kernel
theorem dX7_isMeasured_15 : decode cX7_isMeasured 15 = .ok (.iaload, 1) := by decide +kernel
theorem dX7_isMeasured_16 : decode cX7_isMeasured 16 = .ok (.iconst 1, 1) := by decide +kernel
theorem dX7_isMeasured_17 : decode cX7_isMeasured 17 = .ok (.isub, 1) := by decide +kernel
theorem dX7_isMeasured_18 : decode cX7_isMeasured 18 = .ok (.invokestatic 67, 3) := by decide +kernel
theorem dX7_isMeasured_21 : decode cX7_isMeasured 21 = .ok (.ifCond .eq 7, 3) := by decide +kernel
theorem dX7_isMeasured_24 : decode cX7_isMeasured 24 = .ok (.iconst 1, 1) := by decide +kernel
theorem dX7_isMeasured_25 : decode cX7_isMeasured 25 = .ok (.goto 4, 3) := by decide +kernel
theorem dX7_isMeasured_28 : decode cX7_isMeasured 28 = .ok (.iconst 0, 1) := by decide +kernel
theorem dX7_isMeasured_29 : decode cX7_isMeasured 29 = .ok (.ireturn, 1) := by decide +kernel
set_option maxRecDepth 20000 in
theorem ggX7_drop_X7_isMeasured : GoodIn wsX7_drop wsX7_isMeasured := goodIn_r _ [6, 7, 8, 9, 10, 5, 11, 12, 13, 14, 15, 49, 50, 51, 52, 53, 54, 55, 56, 57, 58, 59, 60, 61, 62, 63, 64, 65, 66, 67, 68] rfl (by decide +kernel)
set_option maxRecDepth 20000 in
theorem gX7_drop_X7_isMeasured : GoodIn wsX7_drop (wsV RX7 114 RX7 yX7_isMeasured wsX7_isMeasured) := goodIn_app (goodIn_of _ (by decide +kernel)) ggX7_drop_X7_isMeasured
set_option maxRecDepth 20000 in
theorem ggX7_drop_X7_goes : GoodIn wsX7_drop wsX7_goes := goodIn_r _ [19, 20, 21, 22, 23, 7, 24, 1, 25, 26, 27, 28, 5, 29, 30, 31, 32, 33, 34, 35, 36, 37, 38, 39, 40, 41, 42, 43, 49, 50, 51, 52, 53, 54, 55, 56, 57, 58, 59, 60, 61, 62, 63, 64, 65, 66, 67, 68] rfl (by decide +kernel)
set_option maxRecDepth 20000 in
theorem gX7_drop_X7_goes : GoodIn wsX7_drop (wsV RX7 111 RX7 yX7_goes wsX7_goes) := goodIn_app (goodIn_of _ (by decide +kernel)) ggX7_drop_X7_goes
set_option maxRecDepth 20000 in
theorem ggX7_drop_X7_fails : GoodIn wsX7_drop wsX7_fails := goodIn_r _ [47, 48, 49, 50, 51, 52, 53, 54, 55, 56, 57, 58, 59, 60, 61, 62, 63, 64, 65, 66, 67, 68] rfl (by decide +kernel)
set_option maxRecDepth 20000 in
theorem gX7_drop_X7_fails : GoodIn wsX7_drop (wsV RX7 83 RX7 yX7_fails wsX7_fails) := goodIn_app (goodIn_of _ (by decide +kernel)) ggX7_drop_X7_fails
theorem dX7_drop_0 : decode cX7_drop 0 = .ok (.bipush 30, 2) := by decide +kernel
theorem dX7_drop_2 : decode cX7_drop 2 = .ok (.iload_n 1, 1) := by decide +kernel
theorem dX7_drop_3 : decode cX7_drop 3 = .ok (.imul, 1) := by decide +kernel
theorem dX7_drop_4 : decode cX7_drop 4 = .ok (.iload_n 2, 1) := by decide +kernel
theorem dX7_drop_5 : decode cX7_drop 5 = .ok (.iadd, 1) := by decide +kernel
theorem dX7_drop_6 : decode cX7_drop 6 = .ok (.istore_n 3, 1) := by decide +kernel
theorem dX7_drop_7 : decode cX7_drop 7 = .ok (.aload_n 0, 1) := by decide +kernel
theorem dX7_drop_8 : decode cX7_drop 8 = .ok (.iload_n 1, 1) := by decide +kernel
theorem dX7_drop_9 : decode cX7_drop 9 = .ok (.iload_n 2, 1) := by decide +kernel
theorem dX7_drop_10 : decode cX7_drop 10 = .ok (.invokevirtual 114, 3) := by decide +kernel
theorem dX7_drop_13 : decode cX7_drop 13 = .ok (.ifCond .eq 16, 3) := by decide +kernel
theorem dX7_drop_16 : decode cX7_drop 16 = .ok (.aload_n 0, 1) := by decide +kernel
theorem dX7_drop_17 : decode cX7_drop 17 = .ok (.getfield 31, 3) := by decide +kernel
theorem dX7_drop_20 : decode cX7_drop 20 = .ok (.iload_n 3, 1) := by decide +kernel
theorem dX7_drop_21 : decode cX7_drop 21 = .ok (.baload, 1) := by decide +kernel
theorem dX7_drop_22 : decode cX7_drop 22 = .ok (.ifCond .ne 7, 3) := by decide +kernel
theorem dX7_drop_25 : decode cX7_drop 25 = .ok (.iconst 1, 1) := by decide +kernel
theorem dX7_drop_26 : decode cX7_drop 26 = .ok (.goto 4, 3) := by decide +kernel
theorem dX7_drop_29 : decode cX7_drop 29 = .ok (.iconst 0, 1) := by decide +kernel
theorem dX7_drop_30 : decode cX7_drop 30 = .ok (.istore 4, 2) := by decide +kernel
theorem dX7_drop_32 : decode cX7_drop 32 = .ok (.iload 4, 2) := by decide +kernel
theorem dX7_drop_34 : decode cX7_drop 34 = .ok (.ifCond .eq 25, 3) := by decide +kernel
theorem dX7_drop_37 : decode cX7_drop 37 = .ok (.aload_n 0, 1) := by decide +kernel
theorem dX7_drop_38 : decode cX7_drop 38 = .ok (.getfield 31, 3) := by decide +kernel
theorem dX7_drop_41 : decode cX7_drop 41 = .ok (.iload_n 3, 1) := by decide +kernel
theorem dX7_drop_42 : decode cX7_drop 42 = .ok (.iconst 1, 1) := by decide +kernel
theorem dX7_drop_43 : decode cX7_drop 43 = .ok (.bastore, 1) := by decide +kernel
theorem dX7_drop_44 : decode cX7_drop 44 = .ok (.aload_n 0, 1) := by decide +kernel
theorem dX7_drop_45 : decode cX7_drop 45 = .ok (.iload_n 1, 1) := by decide +kernel
theorem dX7_drop_46 : decode cX7_drop 46 = .ok (.invokevirtual 111, 3) := by decide +kernel
theorem dX7_drop_49 : decode cX7_drop 49 = .ok (.istore 4, 2) := by decide +kernel
theorem dX7_drop_51 : decode cX7_drop 51 = .ok (.aload_n 0, 1) := by decide +kernel
theorem dX7_drop_52 : decode cX7_drop 52 = .ok (.getfield 31, 3) := by decide +kernel
theorem dX7_drop_55 : decode cX7_drop 55 = .ok (.iload_n 3, 1) := by decide +kernel
theorem dX7_drop_56 : decode cX7_drop 56 = .ok (.iload 4, 2) := by decide +kernel
theorem dX7_drop_58 : decode cX7_drop 58 = .ok (.bastore, 1) := by decide +kernel
theorem dX7_drop_59 : decode cX7_drop 59 = .ok (.aload_n 0, 1) := by decide +kernel
theorem dX7_drop_60 : decode cX7_drop 60 = .ok (.aload_n 0, 1) := by decide +kernel
theorem dX7_drop_61 : decode cX7_drop 61 = .ok (.iload_n 1, 1) := by decide +kernel
theorem dX7_drop_62 : decode cX7_drop 62 = .ok (.iload_n 2, 1) := by decide +kernel
theorem dX7_drop_63 : decode cX7_drop 63 = .ok (.invokevirtual 114, 3) := by decide +kernel
theorem dX7_drop_66 : decode cX7_drop 66 = .ok (.ifCond .ne 7, 3) := by decide +kernel
theorem dX7_drop_69 : decode cX7_drop 69 = .ok (.iconst 1, 1) := by decide +kernel
theorem dX7_drop_70 : decode cX7_drop 70 = .ok (.goto 13, 3) := by decide +kernel
theorem dX7_drop_73 : decode cX7_drop 73 = .ok (.iload 4, 2) := by decide +kernel
theorem dX7_drop_75 : decode cX7_drop 75 = .ok (.ifCond .eq 7, 3) := by decide +kernel
theorem dX7_drop_78 : decode cX7_drop 78 = .ok (.iconst 0, 1) := by decide +kernel
theorem dX7_drop_79 : decode cX7_drop 79 = .ok (.goto 4, 3) := by decide +kernel
theorem dX7_drop_82 : decode cX7_drop 82 = .ok (.iconst 2, 1) := by decide +kernel
theorem dX7_drop_83 : decode cX7_drop 83 = .ok (.invokevirtual 83, 3) := by decide +kernel
theorem dX7_drop_86 : decode cX7_drop 86 = .ok (.pop, 1) := by decide +kernel
theorem dX7_drop_87 : decode cX7_drop 87 = .ok (.return_, 1) := by decide +kernel
set_option maxRecDepth 20000 in
theorem ggX7_of_X7_isOne : GoodIn wsX7_of wsX7_isOne := goodIn_r _ [10, 11, 12, 13, 9, 14, 45, 46, 47, 48, 49, 50, 51, 52, 53, 54, 55, 56, 57, 58, 59, 60, 61, 62, 63, 64] rfl (by decide +kernel)
set_option maxRecDepth 20000 in
theorem gX7_of_X7_isOne : GoodIn wsX7_of (wsV RX7 93 RX7 yX7_isOne wsX7_isOne) := goodIn_app (goodIn_of _ (by decide +kernel)) ggX7_of_X7_isOne
set_option maxRecDepth 20000 in
theorem ggX7_of_X7_isIn : GoodIn wsX7_of wsX7_isIn := goodIn_r _ [14] rfl (by decide +kernel)
set_option maxRecDepth 20000 in
theorem gX7_of_X7_isIn : GoodIn wsX7_of (va_wsS RX7 67 yX7_isIn wsX7_isIn) := goodIn_app (goodIn_of _ (by decide +kernel)) ggX7_of_X7_isIn
set_option maxRecDepth 20000 in
theorem ggX7_of_X7_fails : GoodIn wsX7_of wsX7_fails := goodIn_r _ [18, 19, 45, 46, 47, 48, 49, 50, 51, 52, 53, 54, 55, 56, 57, 58, 59, 60, 61, 62, 63, 64] rfl (by decide +kernel)
set_option maxRecDepth 20000 in
theorem gX7_of_X7_fails : GoodIn wsX7_of (wsV RX7 83 RX7 yX7_fails wsX7_fails) := goodIn_app (goodIn_of _ (by decide +kernel)) ggX7_of_X7_fails
set_option maxRecDepth 20000 in
theorem ggX7_of_X7_goes : GoodIn wsX7_of wsX7_goes := goodIn_r _ [23, 4, 24, 5, 25, 1, 26, 2, 27, 28, 29, 30, 9, 31, 32, 33, 34, 35, 36, 37, 38, 39, 40, 41, 3, 42, 43, 44, 45, 46, 47, 48, 49, 50, 51, 52, 53, 54, 55, 56, 57, 58, 59, 60, 61, 62, 63, 64] rfl (by decide +kernel)
set_option maxRecDepth 20000 in
theorem gX7_of_X7_goes : GoodIn wsX7_of (wsV RX7 111 RX7 yX7_goes wsX7_goes) := goodIn_app (goodIn_of _ (by decide +kernel)) ggX7_of_X7_goes
set_option maxRecDepth 20000 in
theorem ggX7_of_X7_by : GoodIn wsX7_of wsX7_by := goodIn_r _ [35, 36] rfl (by decide +kernel)
set_option maxRecDepth 20000 in
theorem gX7_of_X7_by : GoodIn wsX7_of (va_wsS RX7 79 yX7_by wsX7_by) := goodIn_app (goodIn_of _ (by decide +kernel)) ggX7_of_X7_by
theorem dX7_of_0 : decode cX7_of 0 = .ok (.aload_n 0, 1) := by decide +kernel
theorem dX7_of_1 : decode cX7_of 1 = .ok (.aload_n 0, 1) := by decide +kernel
theorem dX7_of_2 : decode cX7_of 2 = .ok (.iload_n 1, 1) := by decide +kernel
theorem dX7_of_3 : decode cX7_of 3 = .ok (.invokevirtual 93, 3) := by decide +kernel
theorem dX7_of_6 : decode cX7_of 6 = .ok (.ifCond .ne 7, 3) := by decide +kernel
theorem dX7_of_9 : decode cX7_of 9 = .ok (.iconst 1, 1) := by decide +kernel
theorem dX7_of_10 : decode cX7_of 10 = .ok (.goto 18, 3) := by decide +kernel
theorem dX7_of_13 : decode cX7_of 13 = .ok (.iload_n 2, 1) := by decide +kernel
theorem dX7_of_14 : decode cX7_of 14 = .ok (.iconst 0, 1) := by decide +kernel
theorem dX7_of_15 : decode cX7_of 15 = .ok (.bipush 8, 2) := by decide +kernel
theorem dX7_of_17 : decode cX7_of 17 = .ok (.invokestatic 67, 3) := by decide +kernel
theorem dX7_of_20 : decode cX7_of 20 = .ok (.ifCond .eq 7, 3) := by decide +kernel
theorem dX7_of_23 : decode cX7_of 23 = .ok (.iconst 0, 1) := by decide +kernel
theorem dX7_of_24 : decode cX7_of 24 = .ok (.goto 4, 3) := by decide +kernel
theorem dX7_of_27 : decode cX7_of 27 = .ok (.iconst 2, 1) := by decide +kernel
theorem dX7_of_28 : decode cX7_of 28 = .ok (.invokevirtual 83, 3) := by decide +kernel
theorem dX7_of_31 : decode cX7_of 31 = .ok (.ifCond .eq 5, 3) := by decide +kernel
theorem dX7_of_34 : decode cX7_of 34 = .ok (.iconst 0, 1) := by decide +kernel
theorem dX7_of_35 : decode cX7_of 35 = .ok (.ireturn, 1) := by decide +kernel
theorem dX7_of_36 : decode cX7_of 36 = .ok (.aload_n 0, 1) := by decide +kernel
theorem dX7_of_37 : decode cX7_of 37 = .ok (.iload_n 1, 1) := by decide +kernel
theorem dX7_of_38 : decode cX7_of 38 = .ok (.invokevirtual 111, 3) := by decide +kernel
theorem dX7_of_41 : decode cX7_of 41 = .ok (.istore_n 3, 1) := by decide +kernel
theorem dX7_of_42 : decode cX7_of 42 = .ok (.iconst 0, 1) := by decide +kernel
theorem dX7_of_43 : decode cX7_of 43 = .ok (.istore 4, 2) := by decide +kernel
theorem dX7_of_45 : decode cX7_of 45 = .ok (.iconst 0, 1) := by decide +kernel
theorem dX7_of_46 : decode cX7_of 46 = .ok (.istore 5, 2) := by decide +kernel
theorem dX7_of_48 : decode cX7_of 48 = .ok (.iload 5, 2) := by decide +kernel
theorem dX7_of_50 : decode cX7_of 50 = .ok (.aload_n 0, 1) := by decide +kernel
theorem dX7_of_51 : decode cX7_of 51 = .ok (.getfield 25, 3) := by decide +kernel
theorem dX7_of_54 : decode cX7_of 54 = .ok (.iload_n 1, 1) := by decide +kernel
theorem dX7_of_55 : decode cX7_of 55 = .ok (.iaload, 1) := by decide +kernel
theorem dX7_of_56 : decode cX7_of 56 = .ok (.if_icmp .ge 48, 3) := by decide +kernel
theorem dX7_of_59 : decode cX7_of 59 = .ok (.iload 4, 2) := by decide +kernel
theorem dX7_of_61 : decode cX7_of 61 = .ok (.aload_n 0, 1) := by decide +kernel
theorem dX7_of_62 : decode cX7_of 62 = .ok (.getfield 31, 3) := by decide +kernel
theorem dX7_of_65 : decode cX7_of 65 = .ok (.bipush 30, 2) := by decide +kernel
theorem dX7_of_67 : decode cX7_of 67 = .ok (.iload_n 1, 1) := by decide +kernel
theorem dX7_of_68 : decode cX7_of 68 = .ok (.imul, 1) := by decide +kernel
theorem dX7_of_69 : decode cX7_of 69 = .ok (.iload 5, 2) := by decide +kernel
theorem dX7_of_71 : decode cX7_of 71 = .ok (.iadd, 1) := by decide +kernel
theorem dX7_of_72 : decode cX7_of 72 = .ok (.baload, 1) := by decide +kernel
theorem dX7_of_73 : decode cX7_of 73 = .ok (.ifCond .ne 21, 3) := by decide +kernel
theorem dX7_of_76 : decode cX7_of 76 = .ok (.aload_n 0, 1) := by decide +kernel
theorem dX7_of_77 : decode cX7_of 77 = .ok (.getfield 45, 3) := by decide +kernel
theorem dX7_of_80 : decode cX7_of 80 = .ok (.iload 5, 2) := by decide +kernel
theorem dX7_of_82 : decode cX7_of 82 = .ok (.baload, 1) := by decide +kernel
theorem dX7_of_83 : decode cX7_of 83 = .ok (.ifCond .eq 11, 3) := by decide +kernel
theorem dX7_of_86 : decode cX7_of 86 = .ok (.iload_n 3, 1) := by decide +kernel
theorem dX7_of_87 : decode cX7_of 87 = .ok (.ifCond .eq 7, 3) := by decide +kernel
theorem dX7_of_90 : decode cX7_of 90 = .ok (.iconst 1, 1) := by decide +kernel
theorem dX7_of_91 : decode cX7_of 91 = .ok (.goto 4, 3) := by decide +kernel
theorem dX7_of_94 : decode cX7_of 94 = .ok (.iconst 0, 1) := by decide +kernel
theorem dX7_of_95 : decode cX7_of 95 = .ok (.iadd, 1) := by decide +kernel
theorem dX7_of_96 : decode cX7_of 96 = .ok (.istore 4, 2) := by decide +kernel
theorem dX7_of_98 : decode cX7_of 98 = .ok (.iinc 5 1, 3) := by decide +kernel
theorem dX7_of_101 : decode cX7_of 101 = .ok (.goto (-53), 3) := by decide +kernel
theorem dX7_of_104 : decode cX7_of 104 = .ok (.iload_n 2, 1) := by decide +kernel
theorem dX7_of_105 : decode cX7_of 105 = .ok (.iconst 5, 1) := by decide +kernel
theorem dX7_of_106 : decode cX7_of 106 = .ok (.if_icmp .ge 13, 3) := by decide +kernel
theorem dX7_of_109 : decode cX7_of 109 = .ok (.aload_n 0, 1) := by decide +kernel
theorem dX7_of_110 : decode cX7_of 110 = .ok (.getfield 48, 3) := by decide +kernel
theorem dX7_of_113 : decode cX7_of 113 = .ok (.iload_n 2, 1) := by decide +kernel
theorem dX7_of_114 : decode cX7_of 114 = .ok (.laload, 1) := by decide +kernel
theorem dX7_of_115 : decode cX7_of 115 = .ok (.l2i, 1) := by decide +kernel
theorem dX7_of_116 : decode cX7_of 116 = .ok (.goto 74, 3) := by decide +kernel
theorem dX7_of_119 : decode cX7_of 119 = .ok (.iload_n 2, 1) := by decide +kernel
theorem dX7_of_120 : decode cX7_of 120 = .ok (.iconst 5, 1) := by decide +kernel
theorem dX7_of_121 : decode cX7_of 121 = .ok (.if_icmp .ne 12, 3) := by decide +kernel
theorem dX7_of_124 : decode cX7_of 124 = .ok (.aload_n 0, 1) := by decide +kernel
theorem dX7_of_125 : decode cX7_of 125 = .ok (.getfield 19, 3) := by decide +kernel
theorem dX7_of_128 : decode cX7_of 128 = .ok (.iload_n 1, 1) := by decide +kernel
theorem dX7_of_129 : decode cX7_of 129 = .ok (.iaload, 1) := by decide +kernel
theorem dX7_of_130 : decode cX7_of 130 = .ok (.goto 60, 3) := by decide +kernel
theorem dX7_of_133 : decode cX7_of 133 = .ok (.iload_n 2, 1) := by decide +kernel
theorem dX7_of_134 : decode cX7_of 134 = .ok (.bipush 6, 2) := by decide +kernel
theorem dX7_of_136 : decode cX7_of 136 = .ok (.if_icmp .ne 12, 3) := by decide +kernel
theorem dX7_of_139 : decode cX7_of 139 = .ok (.aload_n 0, 1) := by decide +kernel
theorem dX7_of_140 : decode cX7_of 140 = .ok (.getfield 25, 3) := by decide +kernel
theorem dX7_of_143 : decode cX7_of 143 = .ok (.iload_n 1, 1) := by decide +kernel
theorem dX7_of_144 : decode cX7_of 144 = .ok (.iaload, 1) := by decide +kernel
theorem dX7_of_145 : decode cX7_of 145 = .ok (.goto 45, 3) := by decide +kernel
theorem dX7_of_148 : decode cX7_of 148 = .ok (.iload_n 2, 1) := by decide +kernel
theorem dX7_of_149 : decode cX7_of 149 = .ok (.bipush 7, 2) := by decide +kernel
theorem dX7_of_151 : decode cX7_of 151 = .ok (.if_icmp .ne 8, 3) := by decide +kernel
theorem dX7_of_154 : decode cX7_of 154 = .ok (.iload 4, 2) := by decide +kernel
theorem dX7_of_156 : decode cX7_of 156 = .ok (.goto 34, 3) := by decide +kernel
theorem dX7_of_159 : decode cX7_of 159 = .ok (.aload_n 0, 1) := by decide +kernel
theorem dX7_of_160 : decode cX7_of 160 = .ok (.getfield 48, 3) := by decide +kernel
theorem dX7_of_163 : decode cX7_of 163 = .ok (.iconst 2, 1) := by decide +kernel
theorem dX7_of_164 : decode cX7_of 164 = .ok (.laload, 1) := by decide +kernel
theorem dX7_of_165 : decode cX7_of 165 = .ok (.aload_n 0, 1) := by decide +kernel
theorem dX7_of_166 : decode cX7_of 166 = .ok (.getfield 48, 3) := by decide +kernel
theorem dX7_of_169 : decode cX7_of 169 = .ok (.iconst 4, 1) := by decide +kernel
theorem dX7_of_170 : decode cX7_of 170 = .ok (.laload, 1) := by decide +kernel
theorem dX7_of_171 : decode cX7_of 171 = .ok (.lmul, 1) := by decide +kernel
theorem dX7_of_172 : decode cX7_of 172 = .ok (.aload_n 0, 1) := by decide +kernel
theorem dX7_of_173 : decode cX7_of 173 = .ok (.getfield 48, 3) := by decide +kernel
theorem dX7_of_176 : decode cX7_of 176 = .ok (.iconst 3, 1) := by decide +kernel
theorem dX7_of_177 : decode cX7_of 177 = .ok (.laload, 1) := by decide +kernel
theorem dX7_of_178 : decode cX7_of 178 = .ok (.aload_n 0, 1) := by decide +kernel
theorem dX7_of_179 : decode cX7_of 179 = .ok (.getfield 48, 3) := by decide +kernel
theorem dX7_of_182 : decode cX7_of 182 = .ok (.iconst 3, 1) := by decide +kernel
theorem dX7_of_183 : decode cX7_of 183 = .ok (.laload, 1) := by decide +kernel
theorem dX7_of_184 : decode cX7_of 184 = .ok (.lmul, 1) := by decide +kernel
theorem dX7_of_185 : decode cX7_of 185 = .ok (.lsub, 1) := by decide +kernel
theorem dX7_of_186 : decode cX7_of 186 = .ok (.invokestatic 79, 3) := by decide +kernel
theorem dX7_of_189 : decode cX7_of 189 = .ok (.l2i, 1) := by decide +kernel
theorem dX7_of_190 : decode cX7_of 190 = .ok (.ireturn, 1) := by decide +kernel
