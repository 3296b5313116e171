set_option maxRecDepth 20000 in
theorem ggL_over_L_by : GoodIn wsL_over wsL_by := goodIn_r _ [5, 1] (by exact rfl) (by decide +kernel)
set_option maxRecDepth 20000 in
theorem gL_over_L_by : GoodIn wsL_over (va_wsS RL 76 yL_by wsL_by) := goodIn_app (goodIn_of _ (by decide +kernel)) ggL_over_L_by
set_option maxRecDepth 20000 in
theorem ggL_predicts_L_by : GoodIn wsL_predicts wsL_by := goodIn_r _ [4, 5] (by exact rfl) (by decide +kernel)
set_option maxRecDepth 20000 in
theorem gL_predicts_L_by : GoodIn wsL_predicts (va_wsS RL 76 yL_by wsL_by) := goodIn_app (goodIn_of _ (by decide +kernel)) ggL_predicts_L_by
set_option maxRecDepth 20000 in
theorem ggL_goes_L_predicts : GoodIn wsL_goes wsL_predicts := goodIn_r _ [8, 9, 10, 7, 11, 12] (by exact rfl) (by decide +kernel)
set_option maxRecDepth 20000 in
theorem gL_goes_L_predicts : GoodIn wsL_goes (va_wsS RL 80 yL_predicts wsL_predicts) := goodIn_app (goodIn_of _ (by decide +kernel)) ggL_goes_L_predicts
set_option maxRecDepth 20000 in
theorem ggL_goes_L_by : GoodIn wsL_goes wsL_by := goodIn_r _ [11, 12] (by exact rfl) (by decide +kernel)
set_option maxRecDepth 20000 in
theorem gL_goes_L_by : GoodIn wsL_goes (va_wsS RL 76 yL_by wsL_by) := goodIn_app (goodIn_of _ (by decide +kernel)) ggL_goes_L_by
set_option maxRecDepth 20000 in
theorem ggL_goes_L_over : GoodIn wsL_goes wsL_over := goodIn_r _ [15, 12, 9, 10, 7, 11] (by exact rfl) (by decide +kernel)
set_option maxRecDepth 20000 in
theorem gL_goes_L_over : GoodIn wsL_goes (va_wsS RL 90 yL_over wsL_over) := goodIn_app (goodIn_of _ (by decide +kernel)) ggL_goes_L_over
theorem dL_part_0 : decode cL_part 0 = .ok (.iload_n 1, 1) := by decide +kernel
theorem dL_part_1 : decode cL_part 1 = .ok (.aload_n 0, 1) := by decide +kernel
theorem dL_part_2 : decode cL_part 2 = .ok (.arraylength, 1) := by decide +kernel
theorem dL_part_3 : decode cL_part 3 = .ok (.if_icmp .ge 9, 3) := by decide +kernel
theorem dL_part_6 : decode cL_part 6 = .ok (.aload_n 0, 1) := by decide +kernel
theorem dL_part_7 : decode cL_part 7 = .ok (.iload_n 1, 1) := by decide +kernel
theorem dL_part_8 : decode cL_part 8 = .ok (.iaload, 1) := by decide +kernel
theorem dL_part_9 : decode cL_part 9 = .ok (.goto 16, 3) := by decide +kernel
theorem dL_part_12 : decode cL_part 12 = .ok (.sipush 1063, 3) := by decide +kernel
theorem dL_part_15 : decode cL_part 15 = .ok (.iload_n 1, 1) := by decide +kernel
theorem dL_part_16 : decode cL_part 16 = .ok (.imul, 1) := by decide +kernel
theorem dL_part_17 : decode cL_part 17 = .ok (.sipush 953, 3) := by decide +kernel
theorem dL_part_20 : decode cL_part 20 = .ok (.iload_n 1, 1) := by decide +kernel
theorem dL_part_21 : decode cL_part 21 = .ok (.imul, 1) := by decide +kernel
theorem dL_part_22 : decode cL_part 22 = .ok (.iload_n 1, 1) := by decide +kernel
theorem dL_part_23 : decode cL_part 23 = .ok (.imul, 1) := by decide +kernel
theorem dL_part_24 : decode cL_part 24 = .ok (.iadd, 1) := by decide +kernel
theorem dL_part_25 : decode cL_part 25 = .ok (.istore_n 3, 1) := by decide +kernel
theorem dL_part_26 : decode cL_part 26 = .ok (.iload_n 3, 1) := by decide +kernel
theorem dL_part_27 : decode cL_part 27 = .ok (.ldc 7, 2) := by decide +kernel
theorem dL_part_29 : decode cL_part 29 = .ok (.iand, 1) := by decide +kernel
theorem dL_part_30 : decode cL_part 30 = .ok (.iload_n 2, 1) := by decide +kernel
theorem dL_part_31 : decode cL_part 31 = .ok (.irem, 1) := by decide +kernel
theorem dL_part_32 : decode cL_part 32 = .ok (.ireturn, 1) := by decide +kernel
theorem dL_does_0 : decode cL_does 0 = .ok (.iload_n 1, 1) := by decide +kernel
theorem dL_does_1 : decode cL_does 1 = .ok (.ifCond .ne 10, 3) := by decide +kernel
theorem dL_does_4 : decode cL_does 4 = .ok (.aload_n 0, 1) := by decide +kernel
theorem dL_does_5 : decode cL_does 5 = .ok (.invokevirtual 8, 3) := by decide +kernel
theorem dL_does_8 : decode cL_does 8 = .ok (.goto 234, 3) := by decide +kernel
theorem dL_does_11 : decode cL_does 11 = .ok (.iload_n 1, 1) := by decide +kernel
theorem dL_does_12 : decode cL_does 12 = .ok (.iconst 1, 1) := by decide +kernel
theorem dL_does_13 : decode cL_does 13 = .ok (.if_icmp .ne 14, 3) := by decide +kernel
theorem dL_does_16 : decode cL_does 16 = .ok (.aload_n 0, 1) := by decide +kernel
theorem dL_does_17 : decode cL_does 17 = .ok (.iload_n 2, 1) := by decide +kernel
theorem dL_does_18 : decode cL_does 18 = .ok (.iload_n 3, 1) := by decide +kernel
theorem dL_does_19 : decode cL_does 19 = .ok (.iload 4, 2) := by decide +kernel
theorem dL_does_21 : decode cL_does 21 = .ok (.invokevirtual 14, 3) := by decide +kernel
theorem dL_does_24 : decode cL_does 24 = .ok (.goto 218, 3) := by decide +kernel
theorem dL_does_27 : decode cL_does 27 = .ok (.iload_n 1, 1) := by decide +kernel
theorem dL_does_28 : decode cL_does 28 = .ok (.iconst 2, 1) := by decide +kernel
theorem dL_does_29 : decode cL_does 29 = .ok (.if_icmp .ne 20, 3) := by decide +kernel
theorem dL_does_32 : decode cL_does 32 = .ok (.aload_n 0, 1) := by decide +kernel
theorem dL_does_33 : decode cL_does 33 = .ok (.iload_n 2, 1) := by decide +kernel
theorem dL_does_34 : decode cL_does 34 = .ok (.iload_n 3, 1) := by decide +kernel
theorem dL_does_35 : decode cL_does 35 = .ok (.iload 4, 2) := by decide +kernel
theorem dL_does_37 : decode cL_does 37 = .ok (.iload 5, 2) := by decide +kernel
theorem dL_does_39 : decode cL_does 39 = .ok (.iload 6, 2) := by decide +kernel
theorem dL_does_41 : decode cL_does 41 = .ok (.iload 7, 2) := by decide +kernel
theorem dL_does_43 : decode cL_does 43 = .ok (.invokevirtual 18, 3) := by decide +kernel
theorem dL_does_46 : decode cL_does 46 = .ok (.goto 196, 3) := by decide +kernel
theorem dL_does_49 : decode cL_does 49 = .ok (.iload_n 1, 1) := by decide +kernel
theorem dL_does_50 : decode cL_does 50 = .ok (.iconst 3, 1) := by decide +kernel
theorem dL_does_51 : decode cL_does 51 = .ok (.if_icmp .ne 12, 3) := by decide +kernel
theorem dL_does_54 : decode cL_does 54 = .ok (.aload_n 0, 1) := by decide +kernel
theorem dL_does_55 : decode cL_does 55 = .ok (.iload_n 2, 1) := by decide +kernel
theorem dL_does_56 : decode cL_does 56 = .ok (.iload_n 3, 1) := by decide +kernel
theorem dL_does_57 : decode cL_does 57 = .ok (.invokevirtual 22, 3) := by decide +kernel
theorem dL_does_60 : decode cL_does 60 = .ok (.goto 182, 3) := by decide +kernel
theorem dL_does_63 : decode cL_does 63 = .ok (.iload_n 1, 1) := by decide +kernel
theorem dL_does_64 : decode cL_does 64 = .ok (.iconst 4, 1) := by decide +kernel
theorem dL_does_65 : decode cL_does 65 = .ok (.if_icmp .ne 11, 3) := by decide +kernel
theorem dL_does_68 : decode cL_does 68 = .ok (.aload_n 0, 1) := by decide +kernel
theorem dL_does_69 : decode cL_does 69 = .ok (.iload_n 2, 1) := by decide +kernel
theorem dL_does_70 : decode cL_does 70 = .ok (.invokevirtual 26, 3) := by decide +kernel
theorem dL_does_73 : decode cL_does 73 = .ok (.goto 169, 3) := by decide +kernel
theorem dL_does_76 : decode cL_does 76 = .ok (.iload_n 1, 1) := by decide +kernel
theorem dL_does_77 : decode cL_does 77 = .ok (.iconst 5, 1) := by decide +kernel
theorem dL_does_78 : decode cL_does 78 = .ok (.if_icmp .ne 18, 3) := by decide +kernel
theorem dL_does_81 : decode cL_does 81 = .ok (.aload_n 0, 1) := by decide +kernel
theorem dL_does_82 : decode cL_does 82 = .ok (.iload_n 2, 1) := by decide +kernel
theorem dL_does_83 : decode cL_does 83 = .ok (.iload_n 3, 1) := by decide +kernel
theorem dL_does_84 : decode cL_does 84 = .ok (.iload 4, 2) := by decide +kernel
theorem dL_does_86 : decode cL_does 86 = .ok (.iload 5, 2) := by decide +kernel
theorem dL_does_88 : decode cL_does 88 = .ok (.iload 6, 2) := by decide +kernel
theorem dL_does_90 : decode cL_does 90 = .ok (.invokevirtual 30, 3) := by decide +kernel
theorem dL_does_93 : decode cL_does 93 = .ok (.goto 149, 3) := by decide +kernel
theorem dL_does_96 : decode cL_does 96 = .ok (.iload_n 1, 1) := by decide +kernel
theorem dL_does_97 : decode cL_does 97 = .ok (.bipush 6, 2) := by decide +kernel
theorem dL_does_99 : decode cL_does 99 = .ok (.if_icmp .ne 20, 3) := by decide +kernel
theorem dL_does_102 : decode cL_does 102 = .ok (.aload_n 0, 1) := by decide +kernel
theorem dL_does_103 : decode cL_does 103 = .ok (.iload_n 2, 1) := by decide +kernel
theorem dL_does_104 : decode cL_does 104 = .ok (.iload_n 3, 1) := by decide +kernel
theorem dL_does_105 : decode cL_does 105 = .ok (.iload 4, 2) := by decide +kernel
theorem dL_does_107 : decode cL_does 107 = .ok (.iload 5, 2) := by decide +kernel
theorem dL_does_109 : decode cL_does 109 = .ok (.iload 6, 2) := by decide +kernel
theorem dL_does_111 : decode cL_does 111 = .ok (.iload 7, 2) := by decide +kernel
theorem dL_does_113 : decode cL_does 113 = .ok (.invokevirtual 34, 3) := by decide +kernel
theorem dL_does_116 : decode cL_does 116 = .ok (.goto 126, 3) := by decide +kernel
theorem dL_does_119 : decode cL_does 119 = .ok (.iload_n 1, 1) := by decide +kernel
theorem dL_does_120 : decode cL_does 120 = .ok (.bipush 7, 2) := by decide +kernel
theorem dL_does_122 : decode cL_does 122 = .ok (.if_icmp .ne 12, 3) := by decide +kernel
theorem dL_does_125 : decode cL_does 125 = .ok (.aload_n 0, 1) := by decide +kernel
theorem dL_does_126 : decode cL_does 126 = .ok (.iload_n 2, 1) := by decide +kernel
theorem dL_does_127 : decode cL_does 127 = .ok (.iload_n 3, 1) := by decide +kernel
theorem dL_does_128 : decode cL_does 128 = .ok (.invokestatic 37, 3) := by decide +kernel
theorem dL_does_131 : decode cL_does 131 = .ok (.goto 111, 3) := by decide +kernel
theorem dL_does_134 : decode cL_does 134 = .ok (.iload_n 1, 1) := by decide +kernel
theorem dL_does_135 : decode cL_does 135 = .ok (.bipush 8, 2) := by decide +kernel
theorem dL_does_137 : decode cL_does 137 = .ok (.if_icmp .ne 18, 3) := by decide +kernel
theorem dL_does_140 : decode cL_does 140 = .ok (.aload_n 0, 1) := by decide +kernel
theorem dL_does_141 : decode cL_does 141 = .ok (.iload_n 2, 1) := by decide +kernel
theorem dL_does_142 : decode cL_does 142 = .ok (.iload_n 3, 1) := by decide +kernel
theorem dL_does_143 : decode cL_does 143 = .ok (.iload 4, 2) := by decide +kernel
theorem dL_does_145 : decode cL_does 145 = .ok (.iload 5, 2) := by decide +kernel
theorem dL_does_147 : decode cL_does 147 = .ok (.iload 6, 2) := by decide +kernel
theorem dL_does_149 : decode cL_does 149 = .ok (.invokevirtual 43, 3) := by decide +kernel
theorem dL_does_152 : decode cL_does 152 = .ok (.goto 90, 3) := by decide +kernel
theorem dL_does_155 : decode cL_does 155 = .ok (.iload_n 1, 1) := by decide +kernel
theorem dL_does_156 : decode cL_does 156 = .ok (.bipush 9, 2) := by decide +kernel
theorem dL_does_158 : decode cL_does 158 = .ok (.if_icmp .ne 12, 3) := by decide +kernel
theorem dL_does_161 : decode cL_does 161 = .ok (.aload_n 0, 1) := by decide +kernel
theorem dL_does_162 : decode cL_does 162 = .ok (.iload_n 2, 1) := by decide +kernel
theorem dL_does_163 : decode cL_does 163 = .ok (.iload_n 3, 1) := by decide +kernel
theorem dL_does_164 : decode cL_does 164 = .ok (.invokevirtual 46, 3) := by decide +kernel
theorem dL_does_167 : decode cL_does 167 = .ok (.goto 75, 3) := by decide +kernel
theorem dL_does_170 : decode cL_does 170 = .ok (.iload_n 1, 1) := by decide +kernel
theorem dL_does_171 : decode cL_does 171 = .ok (.bipush 10, 2) := by decide +kernel
theorem dL_does_173 : decode cL_does 173 = .ok (.if_icmp .ne 12, 3) := by decide +kernel
theorem dL_does_176 : decode cL_does 176 = .ok (.aload_n 0, 1) := by decide +kernel
theorem dL_does_177 : decode cL_does 177 = .ok (.iload_n 2, 1) := by decide +kernel
theorem dL_does_178 : decode cL_does 178 = .ok (.iload_n 3, 1) := by decide +kernel
theorem dL_does_179 : decode cL_does 179 = .ok (.invokevirtual 49, 3) := by decide +kernel
theorem dL_does_182 : decode cL_does 182 = .ok (.goto 60, 3) := by decide +kernel
theorem dL_does_185 : decode cL_does 185 = .ok (.iload_n 1, 1) := by decide +kernel
theorem dL_does_186 : decode cL_does 186 = .ok (.bipush 11, 2) := by decide +kernel
theorem dL_does_188 : decode cL_does 188 = .ok (.if_icmp .ne 14, 3) := by decide +kernel
theorem dL_does_191 : decode cL_does 191 = .ok (.aload_n 0, 1) := by decide +kernel
theorem dL_does_192 : decode cL_does 192 = .ok (.iload_n 2, 1) := by decide +kernel
theorem dL_does_193 : decode cL_does 193 = .ok (.iload_n 3, 1) := by decide +kernel
theorem dL_does_194 : decode cL_does 194 = .ok (.iload 4, 2) := by decide +kernel
theorem dL_does_196 : decode cL_does 196 = .ok (.invokevirtual 52, 3) := by decide +kernel
theorem dL_does_199 : decode cL_does 199 = .ok (.goto 43, 3) := by decide +kernel
theorem dL_does_202 : decode cL_does 202 = .ok (.iload_n 1, 1) := by decide +kernel
theorem dL_does_203 : decode cL_does 203 = .ok (.bipush 12, 2) := by decide +kernel
theorem dL_does_205 : decode cL_does 205 = .ok (.if_icmp .ne 14, 3) := by decide +kernel
theorem dL_does_208 : decode cL_does 208 = .ok (.aload_n 0, 1) := by decide +kernel
theorem dL_does_209 : decode cL_does 209 = .ok (.iload_n 2, 1) := by decide +kernel
theorem dL_does_210 : decode cL_does 210 = .ok (.iload_n 3, 1) := by decide +kernel
theorem dL_does_211 : decode cL_does 211 = .ok (.iload 4, 2) := by decide +kernel
theorem dL_does_213 : decode cL_does 213 = .ok (.invokevirtual 55, 3) := by decide +kernel
theorem dL_does_216 : decode cL_does 216 = .ok (.goto 26, 3) := by decide +kernel
theorem dL_does_219 : decode cL_does 219 = .ok (.iload_n 1, 1) := by decide +kernel
theorem dL_does_220 : decode cL_does 220 = .ok (.bipush 13, 2) := by decide +kernel
theorem dL_does_222 : decode cL_does 222 = .ok (.if_icmp .ne 12, 3) := by decide +kernel
theorem dL_does_225 : decode cL_does 225 = .ok (.aload_n 0, 1) := by decide +kernel
theorem dL_does_226 : decode cL_does 226 = .ok (.iload_n 2, 1) := by decide +kernel
theorem dL_does_227 : decode cL_does 227 = .ok (.iload_n 3, 1) := by decide +kernel
theorem dL_does_228 : decode cL_does 228 = .ok (.invokevirtual 58, 3) := by decide +kernel
theorem dL_does_231 : decode cL_does 231 = .ok (.goto 11, 3) := by decide +kernel
theorem dL_does_234 : decode cL_does 234 = .ok (.aload_n 0, 1) := by decide +kernel
theorem dL_does_235 : decode cL_does 235 = .ok (.iload_n 2, 1) := by decide +kernel
theorem dL_does_236 : decode cL_does 236 = .ok (.iload_n 3, 1) := by decide +kernel
theorem dL_does_237 : decode cL_does 237 = .ok (.iload 4, 2) := by decide +kernel
theorem dL_does_239 : decode cL_does 239 = .ok (.invokevirtual 61, 3) := by decide +kernel
theorem dL_does_242 : decode cL_does 242 = .ok (.ireturn, 1) := by decide +kernel
theorem dL_does_243 : decode cL_does 243 = .ok (.astore 8, 2) := by decide +kernel
theorem dL_does_245 : decode cL_does 245 = .ok (.bipush (-3), 2) := by decide +kernel
theorem dL_does_247 : decode cL_does 247 = .ok (.ireturn, 1) := by decide +kernel
theorem dL_does_248 : decode cL_does 248 = .ok (.astore 8, 2) := by decide +kernel
theorem dL_does_250 : decode cL_does 250 = .ok (.bipush (-2), 2) := by decide +kernel
theorem dL_does_252 : decode cL_does 252 = .ok (.ireturn, 1) := by decide +kernel
theorem dL_does_253 : decode cL_does 253 = .ok (.astore 8, 2) := by decide +kernel
theorem dL_does_255 : decode cL_does 255 = .ok (.iconst (-1), 1) := by decide +kernel
theorem dL_does_256 : decode cL_does 256 = .ok (.ireturn, 1) := by decide +kernel
theorem dL_dropped_0 : decode cL_dropped 0 = .ok (.aload_n 0, 1) := by decide +kernel
theorem dL_dropped_1 : decode cL_dropped 1 = .ok (.iload_n 1, 1) := by decide +kernel
theorem dL_dropped_2 : decode cL_dropped 2 = .ok (.iload_n 2, 1) := by decide +kernel
theorem dL_dropped_3 : decode cL_dropped 3 = .ok (.invokevirtual 70, 3) := by decide +kernel
theorem dL_dropped_6 : decode cL_dropped 6 = .ok (.iconst 0, 1) := by decide +kernel
theorem dL_dropped_7 : decode cL_dropped 7 = .ok (.ireturn, 1) := by decide +kernel
theorem dL_by_0 : decode cL_by 0 = .ok (.lload_n 0, 1) := by decide +kernel
theorem dL_by_1 : decode cL_by 1 = .ok (.ldc2_w 74, 3) := by decide +kernel
theorem dL_by_4 : decode cL_by 4 = .ok (.lrem, 1) := by decide +kernel
theorem dL_by_5 : decode cL_by 5 = .ok (.lconst 0, 1) := by decide +kernel
theorem dL_by_6 : decode cL_by 6 = .ok (.lcmp, 1) := by decide +kernel
theorem dL_by_7 : decode cL_by 7 = .ok (.ifCond .ge 15, 3) := by decide +kernel
theorem dL_by_10 : decode cL_by 10 = .ok (.lload_n 0, 1) := by decide +kernel
theorem dL_by_11 : decode cL_by 11 = .ok (.ldc2_w 74, 3) := by decide +kernel
theorem dL_by_14 : decode cL_by 14 = .ok (.lrem, 1) := by decide +kernel
theorem dL_by_15 : decode cL_by 15 = .ok (.ldc2_w 74, 3) := by decide +kernel
theorem dL_by_18 : decode cL_by 18 = .ok (.ladd, 1) := by decide +kernel
theorem dL_by_19 : decode cL_by 19 = .ok (.goto 8, 3) := by decide +kernel
theorem dL_by_22 : decode cL_by 22 = .ok (.lload_n 0, 1) := by decide +kernel
theorem dL_by_23 : decode cL_by 23 = .ok (.ldc2_w 74, 3) := by decide +kernel
theorem dL_by_26 : decode cL_by 26 = .ok (.lrem, 1) := by decide +kernel
theorem dL_by_27 : decode cL_by 27 = .ok (.lreturn, 1) := by decide +kernel
theorem dL_over_0 : decode cL_over 0 = .ok (.ldc2_w 74, 3) := by decide +kernel
theorem dL_over_3 : decode cL_over 3 = .ok (.lstore_n 2, 1) := by decide +kernel
theorem dL_over_4 : decode cL_over 4 = .ok (.lload_n 0, 1) := by decide +kernel
theorem dL_over_5 : decode cL_over 5 = .ok (.invokestatic 76, 3) := by decide +kernel
theorem dL_over_8 : decode cL_over 8 = .ok (.lstore 4, 2) := by decide +kernel
theorem dL_over_10 : decode cL_over 10 = .ok (.lconst 0, 1) := by decide +kernel
theorem dL_over_11 : decode cL_over 11 = .ok (.lstore 6, 2) := by decide +kernel
theorem dL_over_13 : decode cL_over 13 = .ok (.lconst 1, 1) := by decide +kernel
theorem dL_over_14 : decode cL_over 14 = .ok (.lstore 8, 2) := by decide +kernel
theorem dL_over_16 : decode cL_over 16 = .ok (.lload 4, 2) := by decide +kernel
theorem dL_over_18 : decode cL_over 18 = .ok (.lconst 0, 1) := by decide +kernel
theorem dL_over_19 : decode cL_over 19 = .ok (.lcmp, 1) := by decide +kernel
theorem dL_over_20 : decode cL_over 20 = .ok (.ifCond .le 46, 3) := by decide +kernel
theorem dL_over_23 : decode cL_over 23 = .ok (.lload_n 2, 1) := by decide +kernel
theorem dL_over_24 : decode cL_over 24 = .ok (.lload 4, 2) := by decide +kernel
theorem dL_over_26 : decode cL_over 26 = .ok (.ldiv, 1) := by decide +kernel
theorem dL_over_27 : decode cL_over 27 = .ok (.lstore 10, 2) := by decide +kernel
theorem dL_over_29 : decode cL_over 29 = .ok (.lload_n 2, 1) := by decide +kernel
theorem dL_over_30 : decode cL_over 30 = .ok (.lload 10, 2) := by decide +kernel
theorem dL_over_32 : decode cL_over 32 = .ok (.lload 4, 2) := by decide +kernel
theorem dL_over_34 : decode cL_over 34 = .ok (.lmul, 1) := by decide +kernel
theorem dL_over_35 : decode cL_over 35 = .ok (.lsub, 1) := by decide +kernel
theorem dL_over_36 : decode cL_over 36 = .ok (.lstore 12, 2) := by decide +kernel
theorem dL_over_38 : decode cL_over 38 = .ok (.lload 6, 2) := by decide +kernel
theorem dL_over_40 : decode cL_over 40 = .ok (.lload 10, 2) := by decide +kernel
theorem dL_over_42 : decode cL_over 42 = .ok (.lload 8, 2) := by decide +kernel
theorem dL_over_44 : decode cL_over 44 = .ok (.lmul, 1) := by decide +kernel
theorem dL_over_45 : decode cL_over 45 = .ok (.lsub, 1) := by decide +kernel
theorem dL_over_46 : decode cL_over 46 = .ok (.lstore 14, 2) := by decide +kernel
theorem dL_over_48 : decode cL_over 48 = .ok (.lload 4, 2) := by decide +kernel
theorem dL_over_50 : decode cL_over 50 = .ok (.lstore_n 2, 1) := by decide +kernel
theorem dL_over_51 : decode cL_over 51 = .ok (.lload 12, 2) := by decide +kernel
theorem dL_over_53 : decode cL_over 53 = .ok (.lstore 4, 2) := by decide +kernel
theorem dL_over_55 : decode cL_over 55 = .ok (.lload 8, 2) := by decide +kernel
theorem dL_over_57 : decode cL_over 57 = .ok (.lstore 6, 2) := by decide +kernel
theorem dL_over_59 : decode cL_over 59 = .ok (.lload 14, 2) := by decide +kernel
theorem dL_over_61 : decode cL_over 61 = .ok (.lstore 8, 2) := by decide +kernel
theorem dL_over_63 : decode cL_over 63 = .ok (.goto (-47), 3) := by decide +kernel
theorem dL_over_66 : decode cL_over 66 = .ok (.lload 6, 2) := by decide +kernel
theorem dL_over_68 : decode cL_over 68 = .ok (.invokestatic 76, 3) := by decide +kernel
theorem dL_over_71 : decode cL_over 71 = .ok (.lreturn, 1) := by decide +kernel
