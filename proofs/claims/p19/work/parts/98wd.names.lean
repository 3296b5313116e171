theorem dL_predicts_0 : decode cL_predicts 0 = .ok (.aload_n 0, 1) := by decide +kernel
theorem dL_predicts_1 : decode cL_predicts 1 = .ok (.iload_n 1, 1) := by decide +kernel
theorem dL_predicts_2 : decode cL_predicts 2 = .ok (.iaload, 1) := by decide +kernel
theorem dL_predicts_3 : decode cL_predicts 3 = .ok (.i2l, 1) := by decide +kernel
theorem dL_predicts_4 : decode cL_predicts 4 = .ok (.aload_n 2, 1) := by decide +kernel
theorem dL_predicts_5 : decode cL_predicts 5 = .ok (.iconst 0, 1) := by decide +kernel
theorem dL_predicts_6 : decode cL_predicts 6 = .ok (.laload, 1) := by decide +kernel
theorem dL_predicts_7 : decode cL_predicts 7 = .ok (.lmul, 1) := by decide +kernel
theorem dL_predicts_8 : decode cL_predicts 8 = .ok (.aload_n 0, 1) := by decide +kernel
theorem dL_predicts_9 : decode cL_predicts 9 = .ok (.iload_n 1, 1) := by decide +kernel
theorem dL_predicts_10 : decode cL_predicts 10 = .ok (.iconst 1, 1) := by decide +kernel
theorem dL_predicts_11 : decode cL_predicts 11 = .ok (.iadd, 1) := by decide +kernel
theorem dL_predicts_12 : decode cL_predicts 12 = .ok (.iaload, 1) := by decide +kernel
theorem dL_predicts_13 : decode cL_predicts 13 = .ok (.i2l, 1) := by decide +kernel
theorem dL_predicts_14 : decode cL_predicts 14 = .ok (.aload_n 2, 1) := by decide +kernel
theorem dL_predicts_15 : decode cL_predicts 15 = .ok (.iconst 1, 1) := by decide +kernel
theorem dL_predicts_16 : decode cL_predicts 16 = .ok (.laload, 1) := by decide +kernel
theorem dL_predicts_17 : decode cL_predicts 17 = .ok (.lmul, 1) := by decide +kernel
theorem dL_predicts_18 : decode cL_predicts 18 = .ok (.ladd, 1) := by decide +kernel
theorem dL_predicts_19 : decode cL_predicts 19 = .ok (.invokestatic 76, 3) := by decide +kernel
theorem dL_predicts_22 : decode cL_predicts 22 = .ok (.lstore_n 3, 1) := by decide +kernel
theorem dL_predicts_23 : decode cL_predicts 23 = .ok (.aload_n 2, 1) := by decide +kernel
theorem dL_predicts_24 : decode cL_predicts 24 = .ok (.iconst 1, 1) := by decide +kernel
theorem dL_predicts_25 : decode cL_predicts 25 = .ok (.aload_n 0, 1) := by decide +kernel
theorem dL_predicts_26 : decode cL_predicts 26 = .ok (.iload_n 1, 1) := by decide +kernel
theorem dL_predicts_27 : decode cL_predicts 27 = .ok (.iconst 2, 1) := by decide +kernel
theorem dL_predicts_28 : decode cL_predicts 28 = .ok (.iadd, 1) := by decide +kernel
theorem dL_predicts_29 : decode cL_predicts 29 = .ok (.iaload, 1) := by decide +kernel
theorem dL_predicts_30 : decode cL_predicts 30 = .ok (.i2l, 1) := by decide +kernel
theorem dL_predicts_31 : decode cL_predicts 31 = .ok (.aload_n 2, 1) := by decide +kernel
theorem dL_predicts_32 : decode cL_predicts 32 = .ok (.iconst 0, 1) := by decide +kernel
theorem dL_predicts_33 : decode cL_predicts 33 = .ok (.laload, 1) := by decide +kernel
theorem dL_predicts_34 : decode cL_predicts 34 = .ok (.lmul, 1) := by decide +kernel
theorem dL_predicts_35 : decode cL_predicts 35 = .ok (.aload_n 0, 1) := by decide +kernel
theorem dL_predicts_36 : decode cL_predicts 36 = .ok (.iload_n 1, 1) := by decide +kernel
theorem dL_predicts_37 : decode cL_predicts 37 = .ok (.iconst 3, 1) := by decide +kernel
theorem dL_predicts_38 : decode cL_predicts 38 = .ok (.iadd, 1) := by decide +kernel
theorem dL_predicts_39 : decode cL_predicts 39 = .ok (.iaload, 1) := by decide +kernel
theorem dL_predicts_40 : decode cL_predicts 40 = .ok (.i2l, 1) := by decide +kernel
theorem dL_predicts_41 : decode cL_predicts 41 = .ok (.aload_n 2, 1) := by decide +kernel
theorem dL_predicts_42 : decode cL_predicts 42 = .ok (.iconst 1, 1) := by decide +kernel
theorem dL_predicts_43 : decode cL_predicts 43 = .ok (.laload, 1) := by decide +kernel
theorem dL_predicts_44 : decode cL_predicts 44 = .ok (.lmul, 1) := by decide +kernel
theorem dL_predicts_45 : decode cL_predicts 45 = .ok (.ladd, 1) := by decide +kernel
theorem dL_predicts_46 : decode cL_predicts 46 = .ok (.invokestatic 76, 3) := by decide +kernel
theorem dL_predicts_49 : decode cL_predicts 49 = .ok (.lastore, 1) := by decide +kernel
theorem dL_predicts_50 : decode cL_predicts 50 = .ok (.aload_n 2, 1) := by decide +kernel
theorem dL_predicts_51 : decode cL_predicts 51 = .ok (.iconst 0, 1) := by decide +kernel
theorem dL_predicts_52 : decode cL_predicts 52 = .ok (.lload_n 3, 1) := by decide +kernel
theorem dL_predicts_53 : decode cL_predicts 53 = .ok (.lastore, 1) := by decide +kernel
theorem dL_predicts_54 : decode cL_predicts 54 = .ok (.aload_n 2, 1) := by decide +kernel
theorem dL_predicts_55 : decode cL_predicts 55 = .ok (.iconst 2, 1) := by decide +kernel
theorem dL_predicts_56 : decode cL_predicts 56 = .ok (.laload, 1) := by decide +kernel
theorem dL_predicts_57 : decode cL_predicts 57 = .ok (.lstore 5, 2) := by decide +kernel
theorem dL_predicts_59 : decode cL_predicts 59 = .ok (.aload_n 2, 1) := by decide +kernel
theorem dL_predicts_60 : decode cL_predicts 60 = .ok (.iconst 3, 1) := by decide +kernel
theorem dL_predicts_61 : decode cL_predicts 61 = .ok (.laload, 1) := by decide +kernel
theorem dL_predicts_62 : decode cL_predicts 62 = .ok (.lstore 7, 2) := by decide +kernel
theorem dL_predicts_64 : decode cL_predicts 64 = .ok (.aload_n 2, 1) := by decide +kernel
theorem dL_predicts_65 : decode cL_predicts 65 = .ok (.iconst 4, 1) := by decide +kernel
theorem dL_predicts_66 : decode cL_predicts 66 = .ok (.laload, 1) := by decide +kernel
theorem dL_predicts_67 : decode cL_predicts 67 = .ok (.lstore 9, 2) := by decide +kernel
theorem dL_predicts_69 : decode cL_predicts 69 = .ok (.aload_n 2, 1) := by decide +kernel
theorem dL_predicts_70 : decode cL_predicts 70 = .ok (.iconst 2, 1) := by decide +kernel
theorem dL_predicts_71 : decode cL_predicts 71 = .ok (.aload_n 0, 1) := by decide +kernel
theorem dL_predicts_72 : decode cL_predicts 72 = .ok (.iload_n 1, 1) := by decide +kernel
theorem dL_predicts_73 : decode cL_predicts 73 = .ok (.iaload, 1) := by decide +kernel
theorem dL_predicts_74 : decode cL_predicts 74 = .ok (.i2l, 1) := by decide +kernel
theorem dL_predicts_75 : decode cL_predicts 75 = .ok (.lload 5, 2) := by decide +kernel
theorem dL_predicts_77 : decode cL_predicts 77 = .ok (.lmul, 1) := by decide +kernel
theorem dL_predicts_78 : decode cL_predicts 78 = .ok (.aload_n 0, 1) := by decide +kernel
theorem dL_predicts_79 : decode cL_predicts 79 = .ok (.iload_n 1, 1) := by decide +kernel
theorem dL_predicts_80 : decode cL_predicts 80 = .ok (.iconst 1, 1) := by decide +kernel
theorem dL_predicts_81 : decode cL_predicts 81 = .ok (.iadd, 1) := by decide +kernel
theorem dL_predicts_82 : decode cL_predicts 82 = .ok (.iaload, 1) := by decide +kernel
theorem dL_predicts_83 : decode cL_predicts 83 = .ok (.i2l, 1) := by decide +kernel
theorem dL_predicts_84 : decode cL_predicts 84 = .ok (.lload 7, 2) := by decide +kernel
theorem dL_predicts_86 : decode cL_predicts 86 = .ok (.lmul, 1) := by decide +kernel
theorem dL_predicts_87 : decode cL_predicts 87 = .ok (.ladd, 1) := by decide +kernel
theorem dL_predicts_88 : decode cL_predicts 88 = .ok (.invokestatic 76, 3) := by decide +kernel
theorem dL_predicts_91 : decode cL_predicts 91 = .ok (.aload_n 0, 1) := by decide +kernel
theorem dL_predicts_92 : decode cL_predicts 92 = .ok (.iload_n 1, 1) := by decide +kernel
theorem dL_predicts_93 : decode cL_predicts 93 = .ok (.iaload, 1) := by decide +kernel
theorem dL_predicts_94 : decode cL_predicts 94 = .ok (.i2l, 1) := by decide +kernel
theorem dL_predicts_95 : decode cL_predicts 95 = .ok (.lmul, 1) := by decide +kernel
theorem dL_predicts_96 : decode cL_predicts 96 = .ok (.aload_n 0, 1) := by decide +kernel
theorem dL_predicts_97 : decode cL_predicts 97 = .ok (.iload_n 1, 1) := by decide +kernel
theorem dL_predicts_98 : decode cL_predicts 98 = .ok (.iaload, 1) := by decide +kernel
theorem dL_predicts_99 : decode cL_predicts 99 = .ok (.i2l, 1) := by decide +kernel
theorem dL_predicts_100 : decode cL_predicts 100 = .ok (.lload 7, 2) := by decide +kernel
theorem dL_predicts_102 : decode cL_predicts 102 = .ok (.lmul, 1) := by decide +kernel
theorem dL_predicts_103 : decode cL_predicts 103 = .ok (.aload_n 0, 1) := by decide +kernel
theorem dL_predicts_104 : decode cL_predicts 104 = .ok (.iload_n 1, 1) := by decide +kernel
theorem dL_predicts_105 : decode cL_predicts 105 = .ok (.iconst 1, 1) := by decide +kernel
theorem dL_predicts_106 : decode cL_predicts 106 = .ok (.iadd, 1) := by decide +kernel
theorem dL_predicts_107 : decode cL_predicts 107 = .ok (.iaload, 1) := by decide +kernel
theorem dL_predicts_108 : decode cL_predicts 108 = .ok (.i2l, 1) := by decide +kernel
theorem dL_predicts_109 : decode cL_predicts 109 = .ok (.lload 9, 2) := by decide +kernel
theorem dL_predicts_111 : decode cL_predicts 111 = .ok (.lmul, 1) := by decide +kernel
theorem dL_predicts_112 : decode cL_predicts 112 = .ok (.ladd, 1) := by decide +kernel
theorem dL_predicts_113 : decode cL_predicts 113 = .ok (.invokestatic 76, 3) := by decide +kernel
theorem dL_predicts_116 : decode cL_predicts 116 = .ok (.aload_n 0, 1) := by decide +kernel
theorem dL_predicts_117 : decode cL_predicts 117 = .ok (.iload_n 1, 1) := by decide +kernel
theorem dL_predicts_118 : decode cL_predicts 118 = .ok (.iconst 1, 1) := by decide +kernel
theorem dL_predicts_119 : decode cL_predicts 119 = .ok (.iadd, 1) := by decide +kernel
theorem dL_predicts_120 : decode cL_predicts 120 = .ok (.iaload, 1) := by decide +kernel
theorem dL_predicts_121 : decode cL_predicts 121 = .ok (.i2l, 1) := by decide +kernel
theorem dL_predicts_122 : decode cL_predicts 122 = .ok (.lmul, 1) := by decide +kernel
theorem dL_predicts_123 : decode cL_predicts 123 = .ok (.ladd, 1) := by decide +kernel
theorem dL_predicts_124 : decode cL_predicts 124 = .ok (.aload_n 0, 1) := by decide +kernel
theorem dL_predicts_125 : decode cL_predicts 125 = .ok (.iload_n 1, 1) := by decide +kernel
theorem dL_predicts_126 : decode cL_predicts 126 = .ok (.iconst 4, 1) := by decide +kernel
theorem dL_predicts_127 : decode cL_predicts 127 = .ok (.iadd, 1) := by decide +kernel
theorem dL_predicts_128 : decode cL_predicts 128 = .ok (.iaload, 1) := by decide +kernel
theorem dL_predicts_129 : decode cL_predicts 129 = .ok (.i2l, 1) := by decide +kernel
theorem dL_predicts_130 : decode cL_predicts 130 = .ok (.ladd, 1) := by decide +kernel
theorem dL_predicts_131 : decode cL_predicts 131 = .ok (.invokestatic 76, 3) := by decide +kernel
theorem dL_predicts_134 : decode cL_predicts 134 = .ok (.lastore, 1) := by decide +kernel
theorem dL_predicts_135 : decode cL_predicts 135 = .ok (.aload_n 2, 1) := by decide +kernel
theorem dL_predicts_136 : decode cL_predicts 136 = .ok (.iconst 3, 1) := by decide +kernel
theorem dL_predicts_137 : decode cL_predicts 137 = .ok (.aload_n 0, 1) := by decide +kernel
theorem dL_predicts_138 : decode cL_predicts 138 = .ok (.iload_n 1, 1) := by decide +kernel
theorem dL_predicts_139 : decode cL_predicts 139 = .ok (.iaload, 1) := by decide +kernel
theorem dL_predicts_140 : decode cL_predicts 140 = .ok (.i2l, 1) := by decide +kernel
theorem dL_predicts_141 : decode cL_predicts 141 = .ok (.lload 5, 2) := by decide +kernel
theorem dL_predicts_143 : decode cL_predicts 143 = .ok (.lmul, 1) := by decide +kernel
theorem dL_predicts_144 : decode cL_predicts 144 = .ok (.aload_n 0, 1) := by decide +kernel
theorem dL_predicts_145 : decode cL_predicts 145 = .ok (.iload_n 1, 1) := by decide +kernel
theorem dL_predicts_146 : decode cL_predicts 146 = .ok (.iconst 1, 1) := by decide +kernel
theorem dL_predicts_147 : decode cL_predicts 147 = .ok (.iadd, 1) := by decide +kernel
theorem dL_predicts_148 : decode cL_predicts 148 = .ok (.iaload, 1) := by decide +kernel
theorem dL_predicts_149 : decode cL_predicts 149 = .ok (.i2l, 1) := by decide +kernel
theorem dL_predicts_150 : decode cL_predicts 150 = .ok (.lload 7, 2) := by decide +kernel
theorem dL_predicts_152 : decode cL_predicts 152 = .ok (.lmul, 1) := by decide +kernel
theorem dL_predicts_153 : decode cL_predicts 153 = .ok (.ladd, 1) := by decide +kernel
theorem dL_predicts_154 : decode cL_predicts 154 = .ok (.invokestatic 76, 3) := by decide +kernel
theorem dL_predicts_157 : decode cL_predicts 157 = .ok (.aload_n 0, 1) := by decide +kernel
theorem dL_predicts_158 : decode cL_predicts 158 = .ok (.iload_n 1, 1) := by decide +kernel
theorem dL_predicts_159 : decode cL_predicts 159 = .ok (.iconst 2, 1) := by decide +kernel
theorem dL_predicts_160 : decode cL_predicts 160 = .ok (.iadd, 1) := by decide +kernel
theorem dL_predicts_161 : decode cL_predicts 161 = .ok (.iaload, 1) := by decide +kernel
theorem dL_predicts_162 : decode cL_predicts 162 = .ok (.i2l, 1) := by decide +kernel
theorem dL_predicts_163 : decode cL_predicts 163 = .ok (.lmul, 1) := by decide +kernel
theorem dL_predicts_164 : decode cL_predicts 164 = .ok (.aload_n 0, 1) := by decide +kernel
theorem dL_predicts_165 : decode cL_predicts 165 = .ok (.iload_n 1, 1) := by decide +kernel
theorem dL_predicts_166 : decode cL_predicts 166 = .ok (.iaload, 1) := by decide +kernel
theorem dL_predicts_167 : decode cL_predicts 167 = .ok (.i2l, 1) := by decide +kernel
theorem dL_predicts_168 : decode cL_predicts 168 = .ok (.lload 7, 2) := by decide +kernel
theorem dL_predicts_170 : decode cL_predicts 170 = .ok (.lmul, 1) := by decide +kernel
theorem dL_predicts_171 : decode cL_predicts 171 = .ok (.aload_n 0, 1) := by decide +kernel
theorem dL_predicts_172 : decode cL_predicts 172 = .ok (.iload_n 1, 1) := by decide +kernel
theorem dL_predicts_173 : decode cL_predicts 173 = .ok (.iconst 1, 1) := by decide +kernel
theorem dL_predicts_174 : decode cL_predicts 174 = .ok (.iadd, 1) := by decide +kernel
theorem dL_predicts_175 : decode cL_predicts 175 = .ok (.iaload, 1) := by decide +kernel
theorem dL_predicts_176 : decode cL_predicts 176 = .ok (.i2l, 1) := by decide +kernel
theorem dL_predicts_177 : decode cL_predicts 177 = .ok (.lload 9, 2) := by decide +kernel
theorem dL_predicts_179 : decode cL_predicts 179 = .ok (.lmul, 1) := by decide +kernel
theorem dL_predicts_180 : decode cL_predicts 180 = .ok (.ladd, 1) := by decide +kernel
theorem dL_predicts_181 : decode cL_predicts 181 = .ok (.invokestatic 76, 3) := by decide +kernel
theorem dL_predicts_184 : decode cL_predicts 184 = .ok (.aload_n 0, 1) := by decide +kernel
theorem dL_predicts_185 : decode cL_predicts 185 = .ok (.iload_n 1, 1) := by decide +kernel
theorem dL_predicts_186 : decode cL_predicts 186 = .ok (.iconst 3, 1) := by decide +kernel
theorem dL_predicts_187 : decode cL_predicts 187 = .ok (.iadd, 1) := by decide +kernel
theorem dL_predicts_188 : decode cL_predicts 188 = .ok (.iaload, 1) := by decide +kernel
theorem dL_predicts_189 : decode cL_predicts 189 = .ok (.i2l, 1) := by decide +kernel
theorem dL_predicts_190 : decode cL_predicts 190 = .ok (.lmul, 1) := by decide +kernel
theorem dL_predicts_191 : decode cL_predicts 191 = .ok (.ladd, 1) := by decide +kernel
theorem dL_predicts_192 : decode cL_predicts 192 = .ok (.aload_n 0, 1) := by decide +kernel
theorem dL_predicts_193 : decode cL_predicts 193 = .ok (.iload_n 1, 1) := by decide +kernel
theorem dL_predicts_194 : decode cL_predicts 194 = .ok (.iconst 5, 1) := by decide +kernel
theorem dL_predicts_195 : decode cL_predicts 195 = .ok (.iadd, 1) := by decide +kernel
theorem dL_predicts_196 : decode cL_predicts 196 = .ok (.iaload, 1) := by decide +kernel
theorem dL_predicts_197 : decode cL_predicts 197 = .ok (.i2l, 1) := by decide +kernel
theorem dL_predicts_198 : decode cL_predicts 198 = .ok (.ladd, 1) := by decide +kernel
theorem dL_predicts_199 : decode cL_predicts 199 = .ok (.invokestatic 76, 3) := by decide +kernel
theorem dL_predicts_202 : decode cL_predicts 202 = .ok (.lastore, 1) := by decide +kernel
theorem dL_predicts_203 : decode cL_predicts 203 = .ok (.aload_n 2, 1) := by decide +kernel
theorem dL_predicts_204 : decode cL_predicts 204 = .ok (.iconst 4, 1) := by decide +kernel
theorem dL_predicts_205 : decode cL_predicts 205 = .ok (.aload_n 0, 1) := by decide +kernel
theorem dL_predicts_206 : decode cL_predicts 206 = .ok (.iload_n 1, 1) := by decide +kernel
theorem dL_predicts_207 : decode cL_predicts 207 = .ok (.iconst 2, 1) := by decide +kernel
theorem dL_predicts_208 : decode cL_predicts 208 = .ok (.iadd, 1) := by decide +kernel
theorem dL_predicts_209 : decode cL_predicts 209 = .ok (.iaload, 1) := by decide +kernel
theorem dL_predicts_210 : decode cL_predicts 210 = .ok (.i2l, 1) := by decide +kernel
theorem dL_predicts_211 : decode cL_predicts 211 = .ok (.lload 5, 2) := by decide +kernel
theorem dL_predicts_213 : decode cL_predicts 213 = .ok (.lmul, 1) := by decide +kernel
theorem dL_predicts_214 : decode cL_predicts 214 = .ok (.aload_n 0, 1) := by decide +kernel
theorem dL_predicts_215 : decode cL_predicts 215 = .ok (.iload_n 1, 1) := by decide +kernel
theorem dL_predicts_216 : decode cL_predicts 216 = .ok (.iconst 3, 1) := by decide +kernel
theorem dL_predicts_217 : decode cL_predicts 217 = .ok (.iadd, 1) := by decide +kernel
theorem dL_predicts_218 : decode cL_predicts 218 = .ok (.iaload, 1) := by decide +kernel
theorem dL_predicts_219 : decode cL_predicts 219 = .ok (.i2l, 1) := by decide +kernel
theorem dL_predicts_220 : decode cL_predicts 220 = .ok (.lload 7, 2) := by decide +kernel
theorem dL_predicts_222 : decode cL_predicts 222 = .ok (.lmul, 1) := by decide +kernel
theorem dL_predicts_223 : decode cL_predicts 223 = .ok (.ladd, 1) := by decide +kernel
theorem dL_predicts_224 : decode cL_predicts 224 = .ok (.invokestatic 76, 3) := by decide +kernel
theorem dL_predicts_227 : decode cL_predicts 227 = .ok (.aload_n 0, 1) := by decide +kernel
theorem dL_predicts_228 : decode cL_predicts 228 = .ok (.iload_n 1, 1) := by decide +kernel
theorem dL_predicts_229 : decode cL_predicts 229 = .ok (.iconst 2, 1) := by decide +kernel
theorem dL_predicts_230 : decode cL_predicts 230 = .ok (.iadd, 1) := by decide +kernel
theorem dL_predicts_231 : decode cL_predicts 231 = .ok (.iaload, 1) := by decide +kernel
theorem dL_predicts_232 : decode cL_predicts 232 = .ok (.i2l, 1) := by decide +kernel
theorem dL_predicts_233 : decode cL_predicts 233 = .ok (.lmul, 1) := by decide +kernel
theorem dL_predicts_234 : decode cL_predicts 234 = .ok (.aload_n 0, 1) := by decide +kernel
theorem dL_predicts_235 : decode cL_predicts 235 = .ok (.iload_n 1, 1) := by decide +kernel
theorem dL_predicts_236 : decode cL_predicts 236 = .ok (.iconst 2, 1) := by decide +kernel
theorem dL_predicts_237 : decode cL_predicts 237 = .ok (.iadd, 1) := by decide +kernel
theorem dL_predicts_238 : decode cL_predicts 238 = .ok (.iaload, 1) := by decide +kernel
theorem dL_predicts_239 : decode cL_predicts 239 = .ok (.i2l, 1) := by decide +kernel
theorem dL_predicts_240 : decode cL_predicts 240 = .ok (.lload 7, 2) := by decide +kernel
theorem dL_predicts_242 : decode cL_predicts 242 = .ok (.lmul, 1) := by decide +kernel
theorem dL_predicts_243 : decode cL_predicts 243 = .ok (.aload_n 0, 1) := by decide +kernel
theorem dL_predicts_244 : decode cL_predicts 244 = .ok (.iload_n 1, 1) := by decide +kernel
theorem dL_predicts_245 : decode cL_predicts 245 = .ok (.iconst 3, 1) := by decide +kernel
theorem dL_predicts_246 : decode cL_predicts 246 = .ok (.iadd, 1) := by decide +kernel
theorem dL_predicts_247 : decode cL_predicts 247 = .ok (.iaload, 1) := by decide +kernel
theorem dL_predicts_248 : decode cL_predicts 248 = .ok (.i2l, 1) := by decide +kernel
theorem dL_predicts_249 : decode cL_predicts 249 = .ok (.lload 9, 2) := by decide +kernel
theorem dL_predicts_251 : decode cL_predicts 251 = .ok (.lmul, 1) := by decide +kernel
theorem dL_predicts_252 : decode cL_predicts 252 = .ok (.ladd, 1) := by decide +kernel
theorem dL_predicts_253 : decode cL_predicts 253 = .ok (.invokestatic 76, 3) := by decide +kernel
theorem dL_predicts_256 : decode cL_predicts 256 = .ok (.aload_n 0, 1) := by decide +kernel
theorem dL_predicts_257 : decode cL_predicts 257 = .ok (.iload_n 1, 1) := by decide +kernel
theorem dL_predicts_258 : decode cL_predicts 258 = .ok (.iconst 3, 1) := by decide +kernel
theorem dL_predicts_259 : decode cL_predicts 259 = .ok (.iadd, 1) := by decide +kernel
theorem dL_predicts_260 : decode cL_predicts 260 = .ok (.iaload, 1) := by decide +kernel
theorem dL_predicts_261 : decode cL_predicts 261 = .ok (.i2l, 1) := by decide +kernel
theorem dL_predicts_262 : decode cL_predicts 262 = .ok (.lmul, 1) := by decide +kernel
theorem dL_predicts_263 : decode cL_predicts 263 = .ok (.ladd, 1) := by decide +kernel
theorem dL_predicts_264 : decode cL_predicts 264 = .ok (.aload_n 0, 1) := by decide +kernel
theorem dL_predicts_265 : decode cL_predicts 265 = .ok (.iload_n 1, 1) := by decide +kernel
theorem dL_predicts_266 : decode cL_predicts 266 = .ok (.bipush 6, 2) := by decide +kernel
theorem dL_predicts_268 : decode cL_predicts 268 = .ok (.iadd, 1) := by decide +kernel
theorem dL_predicts_269 : decode cL_predicts 269 = .ok (.iaload, 1) := by decide +kernel
theorem dL_predicts_270 : decode cL_predicts 270 = .ok (.i2l, 1) := by decide +kernel
theorem dL_predicts_271 : decode cL_predicts 271 = .ok (.ladd, 1) := by decide +kernel
theorem dL_predicts_272 : decode cL_predicts 272 = .ok (.invokestatic 76, 3) := by decide +kernel
theorem dL_predicts_275 : decode cL_predicts 275 = .ok (.lastore, 1) := by decide +kernel
theorem dL_predicts_276 : decode cL_predicts 276 = .ok (.return_, 1) := by decide +kernel
